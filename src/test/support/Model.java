import java.util.ArrayList;
import java.util.Collections;
import java.util.List;
import java.util.TreeMap;

/** What is so, and what the document makes of it, told as plainly and slowly as can be: nothing is kept ready. */
final class Model {
    private static final int NONE = -1;

    List<List<Integer>> rows = new ArrayList<>();
    int floor = 50;
    int reach = 3;

    Model() {
        for (int i = 0; i < 5; i++) {
            rows.add(new ArrayList<>());
        }
    }

    Model copy() {
        Model m = new Model();
        for (int i = 0; i < 5; i++) {
            m.rows.get(i).addAll(rows.get(i));
        }
        m.floor = floor;
        m.reach = reach;
        return m;
    }

    boolean noWindow(int piece, int window) {
        return piece < 0 || piece > 4 || window < 0 || window >= rows.get(piece).size() / 8;
    }

    int share(int piece, int window, int wave) {
        int sum = 0;
        for (int i = 0; i < 8; i++) {
            int v = rows.get(piece).get(8 * window + i);
            sum += Integer.bitCount(i & wave) % 2 == 0 ? v : -v;
        }
        return sum * sum / 64;
    }

    int peak(int piece, int window) {
        int best = 0;
        for (int wave = 7; wave >= 1; wave--) {
            if (best == 0 || share(piece, window, wave) >= share(piece, window, best)) {
                best = wave;
            }
        }
        return share(piece, window, best) < floor ? NONE : best;
    }

    int key(int piece, int v, int w) {
        if (!(v < w && w < v + reach + 1)) {
            return NONE;
        }
        int p = peak(piece, v);
        int q = peak(piece, w);
        return p < 0 || q < 0 ? NONE : 64 * (w - v) + 8 * p + q;
    }

    /** Pairs of key and AT. */
    List<int[]> keys(int piece) {
        List<int[]> all = new ArrayList<>();
        int windows = rows.get(piece).size() / 8;
        for (int v = 0; v < windows; v++) {
            for (int w = v + 1; w < windows; w++) {
                int k = key(piece, v, w);
                if (k != NONE) {
                    all.add(new int[] {k, v});
                }
            }
        }
        return all;
    }

    TreeMap<Integer, List<Integer>> ledger() {
        TreeMap<Integer, List<Integer>> all = new TreeMap<>();
        for (int piece = 0; piece < 4; piece++) {
            for (int[] k : keys(piece)) {
                all.computeIfAbsent(k[0], x -> new ArrayList<>()).add(1000 * piece + k[1]);
            }
        }
        for (List<Integer> places : all.values()) {
            Collections.sort(places);
        }
        return all;
    }

    /** Rows of piece, offset, votes, by rank. */
    List<int[]> ranks() {
        TreeMap<Integer, List<Integer>> ledger = ledger();
        TreeMap<Integer, Integer> counts = new TreeMap<>();
        for (int[] k : keys(4)) {
            for (int place : ledger.getOrDefault(k[0], List.of())) {
                counts.merge(place / 1000 * 1000 + 500 + place % 1000 - k[1], 1, Integer::sum);
            }
        }
        List<int[]> all = new ArrayList<>();
        counts.forEach((cell, n) -> all.add(new int[] {cell / 1000, cell % 1000 - 500, n}));
        all.sort((a, b) -> a[2] != b[2] ? b[2] - a[2] : a[0] != b[0] ? a[0] - b[0] : a[1] - b[1]);
        return all;
    }
}
