import java.util.ArrayDeque;
import java.util.ArrayList;
import java.util.Arrays;
import java.util.Collections;
import java.util.List;
import java.util.Random;
import java.util.TreeMap;

/** Long runs of calls by lots, each answer held against a second, slow telling of the document that keeps nothing ready. */
public final class ModelTest {
    private static final int NONE = -1, UNKNOWN = -1000000001, OUTSIDE = -1000000002, NOT = -1000000003, FULL = -1000000004;
    private static final int RUNS = 600;
    private static final int CALLS = 512;
    private static final int[] ODD = {Integer.MIN_VALUE, Integer.MIN_VALUE + 1, -1000000, -101, -16, -2, -1, 6, 16, 63, 128,
        129, 384, 1000000, Integer.MAX_VALUE - 1, Integer.MAX_VALUE};

    private ModelTest() {
    }

    private static final class Model {
        List<List<Integer>> rows = new ArrayList<>();
        int floor = 50;
        int reach = 3;

        Model() {
            for (int i = 0; i < 5; i++) {
                rows.add(new ArrayList<>());
            }
        }

        Model copy() {
            Model m = new Model();
            for (int i = 0; i < 5; i++) {
                m.rows.get(i).addAll(rows.get(i));
            }
            m.floor = floor;
            m.reach = reach;
            return m;
        }

        boolean noWindow(int piece, int window) {
            return piece < 0 || piece > 4 || window < 0 || window >= rows.get(piece).size() / 8;
        }

        int share(int piece, int window, int wave) {
            int sum = 0;
            for (int i = 0; i < 8; i++) {
                int v = rows.get(piece).get(8 * window + i);
                sum += Integer.bitCount(i & wave) % 2 == 0 ? v : -v;
            }
            return sum * sum / 64;
        }

        int peak(int piece, int window) {
            int best = 0;
            for (int wave = 7; wave >= 1; wave--) {
                if (best == 0 || share(piece, window, wave) >= share(piece, window, best)) {
                    best = wave;
                }
            }
            return share(piece, window, best) < floor ? NONE : best;
        }

        int key(int piece, int v, int w) {
            if (!(v < w && w < v + reach + 1)) {
                return NONE;
            }
            int p = peak(piece, v);
            int q = peak(piece, w);
            return p < 0 || q < 0 ? NONE : 64 * (w - v) + 8 * p + q;
        }

        /** Pairs of key and AT. */
        List<int[]> keys(int piece) {
            List<int[]> all = new ArrayList<>();
            int windows = rows.get(piece).size() / 8;
            for (int v = 0; v < windows; v++) {
                for (int w = v + 1; w < windows; w++) {
                    int k = key(piece, v, w);
                    if (k != NONE) {
                        all.add(new int[] {k, v});
                    }
                }
            }
            return all;
        }

        TreeMap<Integer, List<Integer>> ledger() {
            TreeMap<Integer, List<Integer>> all = new TreeMap<>();
            for (int piece = 0; piece < 4; piece++) {
                for (int[] k : keys(piece)) {
                    all.computeIfAbsent(k[0], x -> new ArrayList<>()).add(1000 * piece + k[1]);
                }
            }
            for (List<Integer> places : all.values()) {
                Collections.sort(places);
            }
            return all;
        }

        /** Rows of piece, offset, votes, by rank. */
        List<int[]> ranks() {
            TreeMap<Integer, List<Integer>> ledger = ledger();
            TreeMap<Integer, Integer> counts = new TreeMap<>();
            for (int[] k : keys(4)) {
                for (int place : ledger.getOrDefault(k[0], List.of())) {
                    counts.merge(place / 1000 * 1000 + 500 + place % 1000 - k[1], 1, Integer::sum);
                }
            }
            List<int[]> all = new ArrayList<>();
            counts.forEach((cell, n) -> all.add(new int[] {cell / 1000, cell % 1000 - 500, n}));
            all.sort((a, b) -> a[2] != b[2] ? b[2] - a[2] : a[0] != b[0] ? a[0] - b[0] : a[1] - b[1]);
            return all;
        }
    }

    private static final class Told {
        Model m = new Model();
        final ArrayDeque<Model> past = new ArrayDeque<>();
        final Model[] images = new Model[2];

        void changing() {
            past.addLast(m.copy());
            if (past.size() > 8) {
                past.removeFirst();
            }
        }

        static boolean out(int v, int least, int greatest) {
            return v < least || v > greatest;
        }

        static int near(int v) {
            return v > 100 ? 100 : v < -100 ? -100 : v;
        }

        int answer(int call, int a, int b, int c) {
            switch (call) {
                case 0: return add(a, b);
                case 1: return wipe(a);
                case 2: return lots(a, b, c);
                case 3: return noise(a, b, c);
                case 4: return louder(a, b, c);
                case 5: return hear(a, b, c);
                case 6: return bound(a, b);
                case 7: return undo();
                case 8: return told(a);
                case 9: return row(a, b);
                case 10: return out(a, 0, 4) ? UNKNOWN : out(b, 0, m.rows.get(a).size() - 1) ? OUTSIDE : m.rows.get(a).get(b);
                case 11: return m.noWindow(a, b) ? UNKNOWN : out(c, 0, 7) ? OUTSIDE : m.share(a, b, c);
                case 12: return m.noWindow(a, b) ? UNKNOWN : m.peak(a, b);
                case 13: return m.noWindow(a, b) || m.noWindow(a, c) ? UNKNOWN : b >= c ? NONE : m.key(a, b, c);
                case 14: return keyAt(a);
                case 15: return out(a, 64, 383) ? OUTSIDE : m.ledger().getOrDefault(a, List.of()).size();
                case 16: return place(a, b);
                case 17: return votes(a, b);
                case 18: return rank(a, b);
                case 19: return keep(a);
                default: return goBack(a);
            }
        }

        int add(int piece, int v) {
            if (out(piece, 0, 4)) {
                return UNKNOWN;
            }
            List<Integer> row = m.rows.get(piece);
            if (out(v, -100, 100)) {
                return OUTSIDE;
            }
            if (row.size() == 128) {
                return FULL;
            }
            changing();
            row.add(v);
            return row.size();
        }

        int wipe(int piece) {
            if (out(piece, 0, 4)) {
                return UNKNOWN;
            }
            changing();
            int had = m.rows.get(piece).size();
            m.rows.get(piece).clear();
            return had;
        }

        int lots(int piece, int n, int seed) {
            if (out(piece, 0, 4)) {
                return UNKNOWN;
            }
            if (out(n, 1, 128) || out(seed, 1, 999999)) {
                return OUTSIDE;
            }
            changing();
            List<Integer> row = new ArrayList<>();
            long x = seed;
            while (row.size() < n) {
                x = x * 16807 % 2147483647;
                row.add((int) (x % 201) - 100);
            }
            m.rows.set(piece, row);
            return n / 8;
        }

        int change(int piece, List<Integer> becomes) {
            int changed = 0;
            for (int i = 0; i < becomes.size(); i++) {
                if (becomes.get(i).intValue() != m.rows.get(piece).get(i)) {
                    changed++;
                }
            }
            changing();
            m.rows.set(piece, becomes);
            return changed;
        }

        int noise(int piece, int s, int seed) {
            if (out(piece, 0, 4)) {
                return UNKNOWN;
            }
            if (out(s, 1, 100) || out(seed, 1, 999999)) {
                return OUTSIDE;
            }
            List<Integer> becomes = new ArrayList<>();
            long x = seed;
            for (int v : m.rows.get(piece)) {
                x = x * 16807 % 2147483647;
                becomes.add(near(v + (int) (x % (2 * s + 1)) - s));
            }
            return change(piece, becomes);
        }

        int louder(int piece, int a, int b) {
            if (out(piece, 0, 4)) {
                return UNKNOWN;
            }
            if (out(a, 1, 9) || out(b, 1, 9)) {
                return OUTSIDE;
            }
            List<Integer> becomes = new ArrayList<>();
            for (int v : m.rows.get(piece)) {
                becomes.add(near(v * a / b));
            }
            return change(piece, becomes);
        }

        int hear(int piece, int from, int n) {
            if (out(piece, 0, 3)) {
                return UNKNOWN;
            }
            if (out(from, 0, 127) || out(n, 1, 128)) {
                return OUTSIDE;
            }
            List<Integer> row = m.rows.get(piece);
            if (from >= row.size()) {
                return NOT;
            }
            changing();
            m.rows.set(4, new ArrayList<>(row.subList(from, Math.min(row.size(), from + n))));
            return m.rows.get(4).size();
        }

        int bound(int what, int v) {
            if (out(what, 0, 1) || (what == 0 ? out(v, 0, 99999) : out(v, 1, 5))) {
                return OUTSIDE;
            }
            changing();
            int was = what == 0 ? m.floor : m.reach;
            if (what == 0) {
                m.floor = v;
            } else {
                m.reach = v;
            }
            return was;
        }

        int undo() {
            if (past.isEmpty()) {
                return NOT;
            }
            m = past.removeLast();
            return past.size();
        }

        int told(int what) {
            TreeMap<Integer, List<Integer>> ledger = m.ledger();
            List<int[]> ranks = m.ranks();
            switch (what) {
                case 0: return m.floor;
                case 1: return m.reach;
                case 2: return ledger.size();
                case 3: return ledger.values().stream().mapToInt(List::size).sum();
                case 4: return m.keys(4).size();
                case 5: return (int) m.keys(4).stream().filter(k -> ledger.containsKey(k[0])).count();
                case 6: return ranks.isEmpty() ? NONE : ranks.get(0)[0];
                case 7: return ranks.isEmpty() ? 0 : ranks.get(0)[1];
                case 8: return ranks.isEmpty() ? 0 : ranks.get(0)[2];
                case 9: return doubt(ranks);
                case 10: return ranks.size();
                case 11: return ranks.stream().mapToInt(r -> r[2]).sum();
                case 12: return past.size();
                default: return OUTSIDE;
            }
        }

        static int doubt(List<int[]> ranks) {
            if (ranks.isEmpty()) {
                return 100;
            }
            int other = ranks.stream().filter(r -> r[0] != ranks.get(0)[0]).mapToInt(r -> r[2]).max().orElse(0);
            return other * 100 / ranks.get(0)[2];
        }

        int row(int piece, int what) {
            if (out(piece, 0, 4)) {
                return UNKNOWN;
            }
            int windows = m.rows.get(piece).size() / 8;
            int[] often = new int[8];
            int sum = 0;
            for (int w = 0; w < windows; w++) {
                if (m.peak(piece, w) != NONE) {
                    often[m.peak(piece, w)]++;
                }
                for (int wave = 0; wave < 8; wave++) {
                    sum += m.share(piece, w, wave);
                }
            }
            int most = Arrays.stream(often).max().getAsInt();
            int wave = 0;
            while (often[wave] != most) {
                wave++;
            }
            switch (what) {
                case 0: return m.rows.get(piece).size();
                case 1: return windows;
                case 2: return Arrays.stream(often).sum();
                case 3: return m.keys(piece).size();
                case 4: return sum;
                case 5: return most == 0 ? NONE : wave;
                default: return OUTSIDE;
            }
        }

        int keyAt(int k) {
            List<Integer> keys = new ArrayList<>(m.ledger().keySet());
            return k < 0 ? OUTSIDE : k >= keys.size() ? NONE : keys.get(k);
        }

        int place(int key, int i) {
            if (out(key, 64, 383) || i < 0) {
                return OUTSIDE;
            }
            List<Integer> places = m.ledger().getOrDefault(key, List.of());
            return i >= places.size() ? NONE : places.get(i);
        }

        int votes(int piece, int offset) {
            if (out(piece, 0, 3)) {
                return UNKNOWN;
            }
            if (out(offset, -15, 15)) {
                return OUTSIDE;
            }
            return m.ranks().stream().filter(r -> r[0] == piece && r[1] == offset).mapToInt(r -> r[2]).sum();
        }

        int rank(int k, int what) {
            if (k < 0 || out(what, 0, 2)) {
                return OUTSIDE;
            }
            List<int[]> ranks = m.ranks();
            return k >= ranks.size() ? NONE : what == 1 ? ranks.get(k)[1] + 100 : ranks.get(k)[what];
        }

        int keep(int i) {
            if (out(i, 0, 1)) {
                return UNKNOWN;
            }
            images[i] = m.copy();
            past.clear();
            return 1;
        }

        int goBack(int i) {
            if (out(i, 0, 1)) {
                return UNKNOWN;
            }
            if (images[i] == null) {
                return NOT;
            }
            m = images[i].copy();
            past.clear();
            return 1;
        }
    }

    private static int ask(SoundPictures x, int call, int a, int b, int c) {
        switch (call) {
            case 0: return x.add(a, b);
            case 1: return x.wipe(a);
            case 2: return x.lots(a, b, c);
            case 3: return x.noise(a, b, c);
            case 4: return x.louder(a, b, c);
            case 5: return x.hear(a, b, c);
            case 6: return x.bound(a, b);
            case 7: return x.undo();
            case 8: return x.told(a);
            case 9: return x.row(a, b);
            case 10: return x.at(a, b);
            case 11: return x.share(a, b, c);
            case 12: return x.peak(a, b);
            case 13: return x.key(a, b, c);
            case 14: return x.keyAt(a);
            case 15: return x.places(a);
            case 16: return x.place(a, b);
            case 17: return x.votes(a, b);
            case 18: return x.rank(a, b);
            case 19: return x.keep(a);
            default: return x.goBack(a);
        }
    }

    /** How often each call comes, of a hundred and some; those that change all at once come seldom, so that rows grow. */
    private static final int[] WEIGHTS = {14, 2, 6, 3, 3, 5, 4, 4, 14, 8, 3, 5, 5, 6, 5, 5, 6, 8, 8, 2, 2};
    private static final int[][][] BOUNDS = {
        {{0, 4}, {-100, 100}}, {{0, 4}}, {{0, 4}, {1, 128}, {1, 999999}}, {{0, 4}, {1, 100}, {1, 999999}},
        {{0, 4}, {1, 9}, {1, 9}}, {{0, 3}, {0, 127}, {1, 128}}, {{0, 1}, {0, 6}}, {}, {{0, 12}}, {{0, 4}, {0, 5}},
        {{0, 4}, {0, 127}}, {{0, 4}, {0, 15}, {0, 7}}, {{0, 4}, {0, 15}}, {{0, 4}, {0, 15}, {0, 15}}, {{0, 80}},
        {{64, 383}}, {{64, 383}, {0, 5}}, {{0, 3}, {-15, 15}}, {{0, 20}, {0, 2}}, {{0, 1}}, {{0, 1}}};

    private static int pickCall(Random lots) {
        int all = Arrays.stream(WEIGHTS).sum();
        int left = lots.nextInt(all);
        int call = 0;
        while (left >= WEIGHTS[call]) {
            left -= WEIGHTS[call];
            call++;
        }
        return call;
    }

    private static int pick(Random lots, int least, int greatest, int odd) {
        if (lots.nextInt(100) < odd) {
            return ODD[lots.nextInt(ODD.length)];
        }
        int how = lots.nextInt(20);
        return how == 0 ? least : how == 1 ? greatest : how == 2 ? least - 1 : how == 3 ? greatest + 1
            : least + lots.nextInt(greatest - least + 1);
    }

    private static int[] pickArguments(Random lots, int call, Told told) {
        int[] arguments = new int[3];
        int[][] bounds = BOUNDS[call];
        for (int i = 0; i < bounds.length; i++) {
            arguments[i] = pick(lots, bounds[i][0], bounds[i][1], 2);
        }
        if (call == 0 && lots.nextInt(2) == 0) {
            arguments[1] = lots.nextInt(3) * 100 - 100;
        }
        if (call == 2 && lots.nextInt(2) == 0) {
            // Few seeds and long rows, so that pieces are alike and votes are many.
            arguments[1] = 64 + lots.nextInt(65);
            arguments[2] = 1 + lots.nextInt(3);
        }
        if (call == 6 && arguments[0] == 0 && lots.nextInt(2) == 0) {
            arguments[1] = pick(lots, 0, new int[] {1, 500, 4000, 99999}[lots.nextInt(4)], 5);
        }
        if ((call == 15 || call == 16) && lots.nextInt(2) == 0 && !told.m.ledger().isEmpty()) {
            List<Integer> keys = new ArrayList<>(told.m.ledger().keySet());
            arguments[0] = keys.get(lots.nextInt(keys.size()));
        }
        return arguments;
    }

    /** Runs ahead of a burst of the same call, so that rows fill and single windows come to be. */
    private static boolean runOnce(int run) {
        Random lots = new Random(run);
        SoundPictures x = new SoundPictures();
        Told told = new Told();
        StringBuilder tale = new StringBuilder();
        int call = 0;
        int burst = 0;
        int[] arguments = new int[3];
        for (int i = 0; i < CALLS; i++) {
            if (burst == 0) {
                call = pickCall(lots);
                arguments = pickArguments(lots, call, told);
                burst = call == 0 && lots.nextInt(8) == 0 ? lots.nextInt(40) : 0;
            } else {
                burst--;
                arguments[1] = lots.nextInt(4) == 0 ? -arguments[1] : arguments[1];
            }
            int want = told.answer(call, arguments[0], arguments[1], arguments[2]);
            int got = ask(x, call, arguments[0], arguments[1], arguments[2]);
            tale.append(call).append(Arrays.toString(arguments)).append(' ');
            if (got != want) {
                System.out.println("run " + run + ", call " + i + ": answered " + got + ", due is " + want + ": " + tale);
                return false;
            }
        }
        return true;
    }

    public static void main(String[] args) {
        int wrong = 0;
        for (int run = 0; run < RUNS && wrong < 5; run++) {
            if (!runOnce(run)) {
                wrong++;
            }
        }
        System.out.println(wrong == 0 ? "model: " + RUNS + " runs are as due" : "model: runs that are not as due: " + wrong);
        if (wrong != 0) {
            System.exit(1);
        }
    }
}
