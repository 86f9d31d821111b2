import java.util.ArrayDeque;
import java.util.ArrayList;
import java.util.Arrays;
import java.util.List;
import java.util.TreeMap;

/** A second telling of the document, call by call, to hold the class against. Calls go by number, in the order of the face. */
final class Told {
    static final String[] NAMES = {"add", "wipe", "lots", "noise", "louder", "hear", "bound", "undo", "told", "row", "at",
        "share", "peak", "key", "keyAt", "places", "place", "votes", "rank", "keep", "goBack"};
    private static final int NONE = -1, UNKNOWN = -1000000001, OUTSIDE = -1000000002, NOT = -1000000003, FULL = -1000000004;

    Model m = new Model();
    final ArrayDeque<Model> past = new ArrayDeque<>();
    final Model[] images = new Model[2];

    void changing() {
        past.addLast(m.copy());
        if (past.size() > 8) {
            past.removeFirst();
        }
    }

    static boolean out(int v, int least, int greatest) {
        return v < least || v > greatest;
    }

    static int near(int v) {
        return v > 100 ? 100 : v < -100 ? -100 : v;
    }

    int answer(int call, int a, int b, int c) {
        switch (call) {
            case 0: return add(a, b);
            case 1: return wipe(a);
            case 2: return lots(a, b, c);
            case 3: return noise(a, b, c);
            case 4: return louder(a, b, c);
            case 5: return hear(a, b, c);
            case 6: return bound(a, b);
            case 7: return undo();
            case 8: return told(a);
            case 9: return row(a, b);
            case 10: return out(a, 0, 4) ? UNKNOWN : out(b, 0, m.rows.get(a).size() - 1) ? OUTSIDE : m.rows.get(a).get(b);
            case 11: return m.noWindow(a, b) ? UNKNOWN : out(c, 0, 7) ? OUTSIDE : m.share(a, b, c);
            case 12: return m.noWindow(a, b) ? UNKNOWN : m.peak(a, b);
            case 13: return m.noWindow(a, b) || m.noWindow(a, c) ? UNKNOWN : b >= c ? NONE : m.key(a, b, c);
            case 14: return keyAt(a);
            case 15: return out(a, 64, 383) ? OUTSIDE : m.ledger().getOrDefault(a, List.of()).size();
            case 16: return place(a, b);
            case 17: return votes(a, b);
            case 18: return rank(a, b);
            case 19: return keep(a);
            default: return goBack(a);
        }
    }

    int add(int piece, int v) {
        if (out(piece, 0, 4)) {
            return UNKNOWN;
        }
        List<Integer> row = m.rows.get(piece);
        if (out(v, -100, 100)) {
            return OUTSIDE;
        }
        if (row.size() == 128) {
            return FULL;
        }
        changing();
        row.add(v);
        return row.size();
    }

    int wipe(int piece) {
        if (out(piece, 0, 4)) {
            return UNKNOWN;
        }
        changing();
        int had = m.rows.get(piece).size();
        m.rows.get(piece).clear();
        return had;
    }

    int lots(int piece, int n, int seed) {
        if (out(piece, 0, 4)) {
            return UNKNOWN;
        }
        if (out(n, 1, 128) || out(seed, 1, 999999)) {
            return OUTSIDE;
        }
        changing();
        List<Integer> row = new ArrayList<>();
        long x = seed;
        while (row.size() < n) {
            x = x * 16807 % 2147483647;
            row.add((int) (x % 201) - 100);
        }
        m.rows.set(piece, row);
        return n / 8;
    }

    int change(int piece, List<Integer> becomes) {
        int changed = 0;
        for (int i = 0; i < becomes.size(); i++) {
            if (becomes.get(i).intValue() != m.rows.get(piece).get(i)) {
                changed++;
            }
        }
        changing();
        m.rows.set(piece, becomes);
        return changed;
    }

    int noise(int piece, int s, int seed) {
        if (out(piece, 0, 4)) {
            return UNKNOWN;
        }
        if (out(s, 1, 100) || out(seed, 1, 999999)) {
            return OUTSIDE;
        }
        List<Integer> becomes = new ArrayList<>();
        long x = seed;
        for (int v : m.rows.get(piece)) {
            x = x * 16807 % 2147483647;
            becomes.add(near(v + (int) (x % (2 * s + 1)) - s));
        }
        return change(piece, becomes);
    }

    int louder(int piece, int a, int b) {
        if (out(piece, 0, 4)) {
            return UNKNOWN;
        }
        if (out(a, 1, 9) || out(b, 1, 9)) {
            return OUTSIDE;
        }
        List<Integer> becomes = new ArrayList<>();
        for (int v : m.rows.get(piece)) {
            becomes.add(near(v * a / b));
        }
        return change(piece, becomes);
    }

    int hear(int piece, int from, int n) {
        if (out(piece, 0, 3)) {
            return UNKNOWN;
        }
        if (out(from, 0, 127) || out(n, 1, 128)) {
            return OUTSIDE;
        }
        List<Integer> row = m.rows.get(piece);
        if (from >= row.size()) {
            return NOT;
        }
        changing();
        m.rows.set(4, new ArrayList<>(row.subList(from, Math.min(row.size(), from + n))));
        return m.rows.get(4).size();
    }

    int bound(int what, int v) {
        if (out(what, 0, 1) || (what == 0 ? out(v, 0, 99999) : out(v, 1, 5))) {
            return OUTSIDE;
        }
        changing();
        int was = what == 0 ? m.floor : m.reach;
        if (what == 0) {
            m.floor = v;
        } else {
            m.reach = v;
        }
        return was;
    }

    int undo() {
        if (past.isEmpty()) {
            return NOT;
        }
        m = past.removeLast();
        return past.size();
    }

    int told(int what) {
        TreeMap<Integer, List<Integer>> ledger = m.ledger();
        List<int[]> ranks = m.ranks();
        switch (what) {
            case 0: return m.floor;
            case 1: return m.reach;
            case 2: return ledger.size();
            case 3: return ledger.values().stream().mapToInt(List::size).sum();
            case 4: return m.keys(4).size();
            case 5: return (int) m.keys(4).stream().filter(k -> ledger.containsKey(k[0])).count();
            case 6: return ranks.isEmpty() ? NONE : ranks.get(0)[0];
            case 7: return ranks.isEmpty() ? 0 : ranks.get(0)[1];
            case 8: return ranks.isEmpty() ? 0 : ranks.get(0)[2];
            case 9: return doubt(ranks);
            case 10: return ranks.size();
            case 11: return ranks.stream().mapToInt(r -> r[2]).sum();
            case 12: return past.size();
            default: return OUTSIDE;
        }
    }

    static int doubt(List<int[]> ranks) {
        if (ranks.isEmpty()) {
            return 100;
        }
        int other = ranks.stream().filter(r -> r[0] != ranks.get(0)[0]).mapToInt(r -> r[2]).max().orElse(0);
        return other * 100 / ranks.get(0)[2];
    }

    int row(int piece, int what) {
        if (out(piece, 0, 4)) {
            return UNKNOWN;
        }
        int windows = m.rows.get(piece).size() / 8;
        int[] often = new int[8];
        int sum = 0;
        for (int w = 0; w < windows; w++) {
            if (m.peak(piece, w) != NONE) {
                often[m.peak(piece, w)]++;
            }
            for (int wave = 0; wave < 8; wave++) {
                sum += m.share(piece, w, wave);
            }
        }
        int most = Arrays.stream(often).max().getAsInt();
        int wave = 0;
        while (often[wave] != most) {
            wave++;
        }
        switch (what) {
            case 0: return m.rows.get(piece).size();
            case 1: return windows;
            case 2: return Arrays.stream(often).sum();
            case 3: return m.keys(piece).size();
            case 4: return sum;
            case 5: return most == 0 ? NONE : wave;
            default: return OUTSIDE;
        }
    }

    int keyAt(int k) {
        List<Integer> keys = new ArrayList<>(m.ledger().keySet());
        return k < 0 ? OUTSIDE : k >= keys.size() ? NONE : keys.get(k);
    }

    int place(int key, int i) {
        if (out(key, 64, 383) || i < 0) {
            return OUTSIDE;
        }
        List<Integer> places = m.ledger().getOrDefault(key, List.of());
        return i >= places.size() ? NONE : places.get(i);
    }

    int votes(int piece, int offset) {
        if (out(piece, 0, 3)) {
            return UNKNOWN;
        }
        if (out(offset, -15, 15)) {
            return OUTSIDE;
        }
        return m.ranks().stream().filter(r -> r[0] == piece && r[1] == offset).mapToInt(r -> r[2]).sum();
    }

    int rank(int k, int what) {
        if (k < 0 || out(what, 0, 2)) {
            return OUTSIDE;
        }
        List<int[]> ranks = m.ranks();
        return k >= ranks.size() ? NONE : what == 1 ? ranks.get(k)[1] + 100 : ranks.get(k)[what];
    }

    int keep(int i) {
        if (out(i, 0, 1)) {
            return UNKNOWN;
        }
        images[i] = m.copy();
        past.clear();
        return 1;
    }

    int goBack(int i) {
        if (out(i, 0, 1)) {
            return UNKNOWN;
        }
        if (images[i] == null) {
            return NOT;
        }
        m = images[i].copy();
        past.clear();
        return 1;
    }

    /** The same call, by its number, of the class itself. */
    static int ask(SoundPictures x, int call, int a, int b, int c) {
        switch (call) {
            case 0: return x.add(a, b);
            case 1: return x.wipe(a);
            case 2: return x.lots(a, b, c);
            case 3: return x.noise(a, b, c);
            case 4: return x.louder(a, b, c);
            case 5: return x.hear(a, b, c);
            case 6: return x.bound(a, b);
            case 7: return x.undo();
            case 8: return x.told(a);
            case 9: return x.row(a, b);
            case 10: return x.at(a, b);
            case 11: return x.share(a, b, c);
            case 12: return x.peak(a, b);
            case 13: return x.key(a, b, c);
            case 14: return x.keyAt(a);
            case 15: return x.places(a);
            case 16: return x.place(a, b);
            case 17: return x.votes(a, b);
            case 18: return x.rank(a, b);
            case 19: return x.keep(a);
            default: return x.goBack(a);
        }
    }
}
