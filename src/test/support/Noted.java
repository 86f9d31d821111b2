import java.util.Arrays;

/**
 * A SoundPictures that notes its latest call, so that a wrong answer can be told, and minds that the document promises
 * nothing beyond 512 calls.
 */
final class Noted {
    private static final int MOST_CALLS = 512;
    private static String latest = "";

    private final SoundPictures x = new SoundPictures();
    private int calls = 0;

    static String latest() {
        return latest;
    }

    private void note(String name, int... arguments) {
        calls++;
        latest = name + Arrays.toString(arguments).replace('[', '(').replace(']', ')');
        if (calls == MOST_CALLS + 1) {
            Sentences.fault("the test makes more than " + MOST_CALLS + " calls of one object");
        }
    }

    int add(int piece, int v) {
        note("add", piece, v);
        return x.add(piece, v);
    }

    int wipe(int piece) {
        note("wipe", piece);
        return x.wipe(piece);
    }

    int lots(int piece, int n, int seed) {
        note("lots", piece, n, seed);
        return x.lots(piece, n, seed);
    }

    int noise(int piece, int s, int seed) {
        note("noise", piece, s, seed);
        return x.noise(piece, s, seed);
    }

    int louder(int piece, int a, int b) {
        note("louder", piece, a, b);
        return x.louder(piece, a, b);
    }

    int hear(int piece, int from, int n) {
        note("hear", piece, from, n);
        return x.hear(piece, from, n);
    }

    int bound(int what, int v) {
        note("bound", what, v);
        return x.bound(what, v);
    }

    int undo() {
        note("undo");
        return x.undo();
    }

    int told(int what) {
        note("told", what);
        return x.told(what);
    }

    int row(int piece, int what) {
        note("row", piece, what);
        return x.row(piece, what);
    }

    int at(int piece, int i) {
        note("at", piece, i);
        return x.at(piece, i);
    }

    int share(int piece, int window, int wave) {
        note("share", piece, window, wave);
        return x.share(piece, window, wave);
    }

    int peak(int piece, int window) {
        note("peak", piece, window);
        return x.peak(piece, window);
    }

    int key(int piece, int v, int w) {
        note("key", piece, v, w);
        return x.key(piece, v, w);
    }

    int keyAt(int k) {
        note("keyAt", k);
        return x.keyAt(k);
    }

    int places(int key) {
        note("places", key);
        return x.places(key);
    }

    int place(int key, int i) {
        note("place", key, i);
        return x.place(key, i);
    }

    int votes(int piece, int offset) {
        note("votes", piece, offset);
        return x.votes(piece, offset);
    }

    int rank(int k, int what) {
        note("rank", k, what);
        return x.rank(k, what);
    }

    int keep(int i) {
        note("keep", i);
        return x.keep(i);
    }

    int goBack(int i) {
        note("goBack", i);
        return x.goBack(i);
    }

    // ---- several calls at once

    Noted numbers(int piece, int... numbers) {
        for (int v : numbers) {
            add(piece, v);
        }
        return this;
    }

    Noted many(int piece, int n, int v) {
        for (int i = 0; i < n; i++) {
            add(piece, v);
        }
        return this;
    }

    /** A window that holds one wave alone, whose share is loud times loud. */
    Noted wave(int piece, int wave, int loud) {
        for (int i = 0; i < 8; i++) {
            add(piece, Integer.bitCount(i & wave) % 2 == 0 ? loud : -loud);
        }
        return this;
    }

    Noted waves(int piece, int... waves) {
        for (int wave : waves) {
            wave(piece, wave, 20);
        }
        return this;
    }

    /** A full row of 0 alone, in four calls: 100 / 9 is 11, then 1, then 0. */
    Noted zeros(int piece) {
        lots(piece, 128, 1);
        louder(piece, 1, 9);
        louder(piece, 1, 9);
        louder(piece, 1, 9);
        return this;
    }

    /** All that can be asked of what is so now: the bounds, what is told, the rows and each of their numbers. */
    String picture() {
        StringBuilder all = new StringBuilder();
        for (int what = 0; what <= 12; what++) {
            all.append(told(what)).append(' ');
        }
        for (int piece = 0; piece <= 4; piece++) {
            all.append("| ");
            for (int what = 0; what <= 5; what++) {
                all.append(row(piece, what)).append(' ');
            }
            int size = row(piece, 0);
            for (int i = 0; i < size; i++) {
                all.append(at(piece, i)).append(' ');
            }
        }
        return all.toString();
    }

    /** As much of what is so as few calls tell. */
    private String sketch() {
        StringBuilder all = new StringBuilder();
        all.append(told(0)).append(' ').append(told(1));
        for (int piece = 0; piece <= 4; piece++) {
            all.append(" | ").append(row(piece, 0)).append(' ').append(row(piece, 4)).append(' ').append(at(piece, 0));
        }
        return all.append('\n').toString();
    }

    /** The picture, then all that can be undone, then both images: what is so is another thing behind this. */
    String wholeTale() {
        StringBuilder all = new StringBuilder(picture()).append('\n');
        for (int i = 0; i < 9; i++) {
            all.append("undo ").append(undo()).append(": ").append(sketch());
        }
        for (int i = 0; i < 2; i++) {
            all.append("image ").append(goBack(i)).append(": ").append(sketch());
        }
        return all.toString();
    }
}
