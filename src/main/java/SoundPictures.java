/** Tells pieces by the waves in them: rows, windows, peaks, keys, a ledger and votes. */
public final class SoundPictures {
    public static final int NONE = -1, UNKNOWN = -1000000001, OUTSIDE = -1000000002, NOT = -1000000003, FULL = -1000000004;

    private static final int PIECES = 4;
    private static final int HEARD = 4;
    private static final int ROWS = 5;
    private static final int LONGEST = 128;
    private static final int LOUDEST = 100;
    private static final int WAVES = 8;
    private static final int MOST_WINDOWS = 16;

    private static final int FIRST_FLOOR = 50;
    private static final int HIGHEST_FLOOR = 99999;
    private static final int FIRST_REACH = 3;
    private static final int FARTHEST_REACH = 5;

    private static final int LEAST_KEY = 64;
    private static final int GREATEST_KEY = 383;

    private static final int FARTHEST_OFFSET = 15;
    private static final int OFFSETS = 31;
    private static final int CELLS = 124;

    private static final int MOST_UNDONE = 8;
    private static final int IMAGES = 2;

    private static final int GREATEST_SEED = 999999;
    private static final int STRONGEST_NOISE = 100;
    private static final int GREATEST_FACTOR = 9;

    private final State now;
    private final Past past;
    private final State[] images;
    private final Peaks peaks;
    private final Ledger ledger;
    private final Ballot ballot;
    /** Whether peaks, ledger and ballot are those of the state as it is. */
    private boolean fresh;

    public SoundPictures() {
        now = new State();
        past = new Past();
        images = new State[IMAGES];
        peaks = new Peaks();
        ledger = new Ledger();
        ballot = new Ballot();
        fresh = false;
    }

    // ---- rows

    public int add(int piece, int v) {
        if (!isRow(piece)) {
            return UNKNOWN;
        }
        if (!isWithin(v, -LOUDEST, LOUDEST)) {
            return OUTSIDE;
        }
        if (now.sizeOf(piece) >= LONGEST) {
            return FULL;
        }
        beforeChange(piece);
        now.append(piece, v);
        return now.sizeOf(piece);
    }

    public int wipe(int piece) {
        if (!isRow(piece)) {
            return UNKNOWN;
        }
        beforeChange(piece);
        int had = now.sizeOf(piece);
        now.empty(piece);
        return had;
    }

    public int lots(int piece, int n, int seed) {
        if (!isRow(piece)) {
            return UNKNOWN;
        }
        if (!isWithin(n, 1, LONGEST) || !isWithin(seed, 1, GREATEST_SEED)) {
            return OUTSIDE;
        }
        beforeChange(piece);
        now.empty(piece);
        int lot = seed;
        for (int i = 0; i < n; i++) {
            lot = lotAfter(lot);
            now.append(piece, lot % (2 * LOUDEST + 1) - LOUDEST);
        }
        return now.windowsOf(piece);
    }

    public int noise(int piece, int s, int seed) {
        if (!isRow(piece)) {
            return UNKNOWN;
        }
        if (!isWithin(s, 1, STRONGEST_NOISE) || !isWithin(seed, 1, GREATEST_SEED)) {
            return OUTSIDE;
        }
        beforeChange(piece);
        int size = now.sizeOf(piece);
        int lot = seed;
        int changed = 0;
        for (int i = 0; i < size; i++) {
            lot = lotAfter(lot);
            if (now.replace(piece, i, now.numberAt(piece, i) + lot % (2 * s + 1) - s)) {
                changed++;
            }
        }
        return changed;
    }

    public int louder(int piece, int a, int b) {
        if (!isRow(piece)) {
            return UNKNOWN;
        }
        if (!isWithin(a, 1, GREATEST_FACTOR) || !isWithin(b, 1, GREATEST_FACTOR)) {
            return OUTSIDE;
        }
        beforeChange(piece);
        int size = now.sizeOf(piece);
        int changed = 0;
        for (int i = 0; i < size; i++) {
            if (now.replace(piece, i, now.numberAt(piece, i) * a / b)) {
                changed++;
            }
        }
        return changed;
    }

    public int hear(int piece, int from, int n) {
        if (!isPiece(piece)) {
            return UNKNOWN;
        }
        if (!isWithin(from, 0, LONGEST - 1) || !isWithin(n, 1, LONGEST)) {
            return OUTSIDE;
        }
        int size = now.sizeOf(piece);
        if (from >= size) {
            return NOT;
        }
        beforeChange(HEARD);
        int end = Math.min(size, from + n);
        now.empty(HEARD);
        for (int i = from; i < end; i++) {
            now.append(HEARD, now.numberAt(piece, i));
        }
        return now.sizeOf(HEARD);
    }

    public int bound(int what, int v) {
        if (what == 0) {
            return isWithin(v, 0, HIGHEST_FLOOR) ? changeFloor(v) : OUTSIDE;
        }
        if (what == 1) {
            return isWithin(v, 1, FARTHEST_REACH) ? changeReach(v) : OUTSIDE;
        }
        return OUTSIDE;
    }

    public int undo() {
        if (past.depth() == 0) {
            return NOT;
        }
        past.restoreLatest(now);
        fresh = false;
        return past.depth();
    }

    public int told(int what) {
        refresh();
        switch (what) {
            case 0: return now.floor();
            case 1: return now.reach();
            case 2: return ledger.unlikeKeys();
            case 3: return ledger.allPlaces();
            case 4: return ballot.keysHeard();
            case 5: return ballot.keysKnown();
            case 6: return ballot.pieceOf(0);
            case 7: return ballot.offsetOf(0);
            case 8: return ballot.countOf(0);
            case 9: return ballot.doubt();
            case 10: return ballot.ranked();
            case 11: return ballot.allVotes();
            case 12: return past.depth();
            default: return OUTSIDE;
        }
    }

    public int row(int piece, int what) {
        if (!isRow(piece)) {
            return UNKNOWN;
        }
        refresh();
        switch (what) {
            case 0: return now.sizeOf(piece);
            case 1: return now.windowsOf(piece);
            case 2: return peaks.countIn(piece);
            case 3: return peaks.countKeysIn(piece, now.reach());
            case 4: return peaks.allSharesIn(now, piece);
            case 5: return peaks.mostOftenIn(piece);
            default: return OUTSIDE;
        }
    }

    public int at(int piece, int i) {
        if (!isRow(piece)) {
            return UNKNOWN;
        }
        if (!isWithin(i, 0, now.sizeOf(piece) - 1)) {
            return OUTSIDE;
        }
        return now.numberAt(piece, i);
    }

    // ---- windows, keys

    public int share(int piece, int window, int wave) {
        if (!isWindow(piece, window)) {
            return UNKNOWN;
        }
        if (!isWithin(wave, 0, WAVES - 1)) {
            return OUTSIDE;
        }
        return peaks.shareIn(now, piece, window, wave);
    }

    public int peak(int piece, int window) {
        if (!isWindow(piece, window)) {
            return UNKNOWN;
        }
        refresh();
        return peaks.peakOf(piece, window);
    }

    public int key(int piece, int v, int w) {
        if (!isWindow(piece, v) || !isWindow(piece, w)) {
            return UNKNOWN;
        }
        refresh();
        return peaks.keyOf(piece, v, w, now.reach());
    }

    public int keyAt(int k) {
        if (k < 0) {
            return OUTSIDE;
        }
        refresh();
        return ledger.keyByRise(k);
    }

    public int places(int key) {
        if (!isWithin(key, LEAST_KEY, GREATEST_KEY)) {
            return OUTSIDE;
        }
        refresh();
        return ledger.placesOf(key);
    }

    public int place(int key, int i) {
        if (!isWithin(key, LEAST_KEY, GREATEST_KEY) || i < 0) {
            return OUTSIDE;
        }
        refresh();
        return ledger.placeOf(key, i);
    }

    // ---- votes

    public int votes(int piece, int offset) {
        if (!isPiece(piece)) {
            return UNKNOWN;
        }
        if (!isWithin(offset, -FARTHEST_OFFSET, FARTHEST_OFFSET)) {
            return OUTSIDE;
        }
        refresh();
        return ballot.votesFor(piece, offset);
    }

    public int rank(int k, int what) {
        if (k < 0 || !isWithin(what, 0, 2)) {
            return OUTSIDE;
        }
        refresh();
        if (k >= ballot.ranked()) {
            return NONE;
        }
        switch (what) {
            case 0: return ballot.pieceOf(k);
            case 1: return ballot.offsetOf(k) + 100;
            default: return ballot.countOf(k);
        }
    }

    // ---- images

    public int keep(int i) {
        if (!isWithin(i, 0, IMAGES - 1)) {
            return UNKNOWN;
        }
        State image = images[i];
        if (image == null) {
            image = new State();
            images[i] = image;
        }
        image.become(now);
        past.forget();
        return 1;
    }

    public int goBack(int i) {
        if (!isWithin(i, 0, IMAGES - 1)) {
            return UNKNOWN;
        }
        State image = images[i];
        if (image == null) {
            return NOT;
        }
        now.become(image);
        past.forget();
        fresh = false;
        return 1;
    }

    // ---- helpers

    private static boolean isWithin(int v, int least, int greatest) {
        return v >= least && v <= greatest;
    }

    private static boolean isPiece(int piece) {
        return isWithin(piece, 0, PIECES - 1);
    }

    private static boolean isRow(int piece) {
        return isWithin(piece, 0, ROWS - 1);
    }

    private boolean isWindow(int piece, int window) {
        return isRow(piece) && isWithin(window, 0, now.windowsOf(piece) - 1);
    }

    private static int lotAfter(int lot) {
        return (int) (lot * 16807L % 2147483647L);
    }

    /** Every call that changes something passes here ahead of the change, once it can't be refused any more. */
    private void beforeChange(int row) {
        past.remember(now, row);
        fresh = false;
    }

    /** The past keeps both bounds with whichever row it is told, so any row serves. */
    private int changeFloor(int v) {
        beforeChange(HEARD);
        int was = now.floor();
        now.setFloor(v);
        return was;
    }

    private int changeReach(int v) {
        beforeChange(HEARD);
        int was = now.reach();
        now.setReach(v);
        return was;
    }

    private void refresh() {
        if (fresh) {
            return;
        }
        peaks.look(now);
        ledger.write(peaks, now.reach());
        ballot.cast(peaks, ledger, now.reach());
        fresh = true;
    }

    /** What an image keeps: the rows, FLOOR and REACH. */
    private static final class State {
        private final int[] numbers;
        private final int[] sizes;
        private int floor;
        private int reach;

        State() {
            numbers = new int[ROWS * LONGEST];
            sizes = new int[ROWS];
            floor = FIRST_FLOOR;
            reach = FIRST_REACH;
        }

        int floor() {
            return floor;
        }

        int reach() {
            return reach;
        }

        void setFloor(int v) {
            floor = v;
        }

        void setReach(int v) {
            reach = v;
        }

        int sizeOf(int row) {
            return sizes[row];
        }

        int windowsOf(int row) {
            return sizes[row] / WAVES;
        }

        int numberAt(int row, int i) {
            return numbers[row * LONGEST + i];
        }

        void empty(int row) {
            sizes[row] = 0;
        }

        void append(int row, int v) {
            int size = sizes[row];
            if (size < LONGEST) {
                numbers[row * LONGEST + size] = v;
                sizes[row] = size + 1;
            }
        }

        /** Puts v, or the nearest number within the bounds; tells whether the number became another one. */
        boolean replace(int row, int i, int v) {
            int place = row * LONGEST + i;
            int was = numbers[place];
            int becomes = Math.max(-LOUDEST, Math.min(LOUDEST, v));
            numbers[place] = becomes;
            return becomes != was;
        }

        void become(State other) {
            System.arraycopy(other.numbers, 0, numbers, 0, ROWS * LONGEST);
            System.arraycopy(other.sizes, 0, sizes, 0, ROWS);
            floor = other.floor;
            reach = other.reach;
        }

        void copyRowTo(int row, int[] to, int start) {
            System.arraycopy(numbers, row * LONGEST, to, start, LONGEST);
        }

        void takeRow(int row, int[] from, int start, int size) {
            System.arraycopy(from, start, numbers, row * LONGEST, LONGEST);
            sizes[row] = size;
        }
    }

    /**
     * The latest changes, in a ring, so that the oldest are lost by being written over.
     * A call changes one row or one bound at most, so one row and the bounds are all that is kept of each.
     */
    private static final class Past {
        private final int[] numbers;
        private final int[] rows;
        private final int[] sizes;
        private final int[] floors;
        private final int[] reaches;
        private int next;
        private int depth;

        Past() {
            numbers = new int[MOST_UNDONE * LONGEST];
            rows = new int[MOST_UNDONE];
            sizes = new int[MOST_UNDONE];
            floors = new int[MOST_UNDONE];
            reaches = new int[MOST_UNDONE];
        }

        int depth() {
            return depth;
        }

        void forget() {
            depth = 0;
        }

        void remember(State state, int row) {
            state.copyRowTo(row, numbers, next * LONGEST);
            rows[next] = row;
            sizes[next] = state.sizeOf(row);
            floors[next] = state.floor();
            reaches[next] = state.reach();
            next = (next + 1) % MOST_UNDONE;
            depth = Math.min(depth + 1, MOST_UNDONE);
        }

        void restoreLatest(State state) {
            if (depth == 0) {
                return;
            }
            next = (next + MOST_UNDONE - 1) % MOST_UNDONE;
            depth--;
            state.takeRow(rows[next], numbers, next * LONGEST, sizes[next]);
            state.setFloor(floors[next]);
            state.setReach(reaches[next]);
        }
    }

    /** The waves of windows, and the peak of every window of every row. */
    private static final class Peaks {
        private final int[] waves;
        private final int[] found;
        private final int[] often;

        Peaks() {
            waves = new int[WAVES];
            found = new int[ROWS * MOST_WINDOWS];
            often = new int[WAVES];
        }

        /** Windows that there are not get NONE, so that whoever pairs windows need not ask for their number. */
        void look(State state) {
            for (int row = 0; row < ROWS; row++) {
                int windows = state.windowsOf(row);
                for (int window = 0; window < MOST_WINDOWS; window++) {
                    int place = row * MOST_WINDOWS + window;
                    found[place] = window < windows ? findPeak(state, row, window) : NONE;
                }
            }
        }

        int shareIn(State state, int row, int window, int wave) {
            turn(state, row, window);
            return shareOf(wave);
        }

        int allSharesIn(State state, int row) {
            int windows = state.windowsOf(row);
            int sum = 0;
            for (int window = 0; window < windows; window++) {
                turn(state, row, window);
                for (int wave = 0; wave < WAVES; wave++) {
                    sum += shareOf(wave);
                }
            }
            return sum;
        }

        int peakOf(int row, int window) {
            return found[row * MOST_WINDOWS + window];
        }

        int keyOf(int row, int v, int w, int reach) {
            if (v < 0 || v >= w || w >= MOST_WINDOWS || w - v > reach) {
                return NONE;
            }
            int p = peakOf(row, v);
            int q = peakOf(row, w);
            return p == NONE || q == NONE ? NONE : 64 * (w - v) + 8 * p + q;
        }

        int countIn(int row) {
            int count = 0;
            for (int window = 0; window < MOST_WINDOWS; window++) {
                if (peakOf(row, window) != NONE) {
                    count++;
                }
            }
            return count;
        }

        int countKeysIn(int row, int reach) {
            int count = 0;
            for (int v = 0; v < MOST_WINDOWS; v++) {
                for (int far = 1; far <= reach; far++) {
                    if (keyOf(row, v, v + far, reach) != NONE) {
                        count++;
                    }
                }
            }
            return count;
        }

        int mostOftenIn(int row) {
            for (int wave = 0; wave < WAVES; wave++) {
                often[wave] = 0;
            }
            for (int window = 0; window < MOST_WINDOWS; window++) {
                int peak = peakOf(row, window);
                if (peak != NONE) {
                    often[peak]++;
                }
            }
            int best = NONE;
            int most = 0;
            for (int wave = 0; wave < WAVES; wave++) {
                if (often[wave] > most) {
                    most = often[wave];
                    best = wave;
                }
            }
            return best;
        }

        private int findPeak(State state, int row, int window) {
            turn(state, row, window);
            int best = 1;
            for (int wave = 2; wave < WAVES; wave++) {
                if (shareOf(wave) > shareOf(best)) {
                    best = wave;
                }
            }
            return shareOf(best) >= state.floor() ? best : NONE;
        }

        /** Of the window that was turned last. */
        private int shareOf(int wave) {
            return waves[wave] * waves[wave] / 64;
        }

        private void turn(State state, int row, int window) {
            for (int i = 0; i < WAVES; i++) {
                waves[i] = state.numberAt(row, window * WAVES + i);
            }
            for (int h = 1; h < WAVES; h *= 2) {
                turnPairs(h);
            }
        }

        private void turnPairs(int h) {
            for (int a = 0; a + h < WAVES; a++) {
                if ((a & h) == 0) {
                    int first = waves[a];
                    int second = waves[a + h];
                    waves[a] = first + second;
                    waves[a + h] = first - second;
                }
            }
        }
    }

    /** THE LEDGER: all places of all keys of the pieces, by key, then piece, then AT. */
    private static final class Ledger {
        /** Places of key k stand from starts[k] on, up to starts[k + 1]. */
        private final int[] starts;
        private final int[] filled;
        private final int[] entries;
        private int unlike;

        Ledger() {
            starts = new int[GREATEST_KEY + 2];
            filled = new int[GREATEST_KEY + 1];
            entries = new int[PIECES * MOST_WINDOWS * FARTHEST_REACH];
        }

        int unlikeKeys() {
            return unlike;
        }

        int allPlaces() {
            return starts[GREATEST_KEY + 1];
        }

        int placesOf(int key) {
            return starts[key + 1] - starts[key];
        }

        int placeOf(int key, int i) {
            return i < placesOf(key) ? entries[starts[key] + i] : NONE;
        }

        int keyByRise(int k) {
            int left = k;
            for (int key = LEAST_KEY; key <= GREATEST_KEY; key++) {
                if (placesOf(key) > 0) {
                    if (left == 0) {
                        return key;
                    }
                    left--;
                }
            }
            return NONE;
        }

        void write(Peaks peaks, int reach) {
            countKeys(peaks, reach);
            setStarts();
            fillEntries(peaks, reach);
        }

        private void countKeys(Peaks peaks, int reach) {
            for (int key = 0; key <= GREATEST_KEY; key++) {
                filled[key] = 0;
            }
            for (int piece = 0; piece < PIECES; piece++) {
                for (int v = 0; v < MOST_WINDOWS; v++) {
                    for (int far = 1; far <= reach; far++) {
                        int key = peaks.keyOf(piece, v, v + far, reach);
                        if (key != NONE) {
                            filled[key]++;
                        }
                    }
                }
            }
        }

        private void setStarts() {
            unlike = 0;
            starts[0] = 0;
            for (int key = 0; key <= GREATEST_KEY; key++) {
                starts[key + 1] = starts[key] + filled[key];
                if (filled[key] > 0) {
                    unlike++;
                }
                filled[key] = 0;
            }
        }

        /** Pieces and windows are gone through rising, which is the order that the places of a key are due in. */
        private void fillEntries(Peaks peaks, int reach) {
            for (int piece = 0; piece < PIECES; piece++) {
                for (int v = 0; v < MOST_WINDOWS; v++) {
                    for (int far = 1; far <= reach; far++) {
                        int key = peaks.keyOf(piece, v, v + far, reach);
                        if (key != NONE) {
                            entries[starts[key] + filled[key]] = 1000 * piece + v;
                            filled[key]++;
                        }
                    }
                }
            }
        }
    }

    /** The votes of what is heard: a cell for each piece and offset, and the cells with votes by rank. */
    private static final class Ballot {
        private final int[] cells;
        private final int[] order;
        private int ranked;
        private int heard;
        private int known;
        private int all;

        Ballot() {
            cells = new int[CELLS];
            order = new int[CELLS];
        }

        int keysHeard() {
            return heard;
        }

        int keysKnown() {
            return known;
        }

        int allVotes() {
            return all;
        }

        int ranked() {
            return ranked;
        }

        int votesFor(int piece, int offset) {
            return cells[piece * OFFSETS + offset + FARTHEST_OFFSET];
        }

        int pieceOf(int k) {
            return k < ranked ? order[k] / OFFSETS : NONE;
        }

        int offsetOf(int k) {
            return k < ranked ? order[k] % OFFSETS - FARTHEST_OFFSET : 0;
        }

        int countOf(int k) {
            return k < ranked ? cells[order[k]] : 0;
        }

        int doubt() {
            int most = countOf(0);
            if (most <= 0) {
                return 100;
            }
            for (int k = 1; k < ranked; k++) {
                if (pieceOf(k) != pieceOf(0)) {
                    return countOf(k) * 100 / most;
                }
            }
            return 0;
        }

        void cast(Peaks peaks, Ledger ledger, int reach) {
            clear();
            for (int u = 0; u < MOST_WINDOWS; u++) {
                for (int far = 1; far <= reach; far++) {
                    int key = peaks.keyOf(HEARD, u, u + far, reach);
                    if (key != NONE) {
                        heard++;
                        castFor(ledger, key, u);
                    }
                }
            }
            rankCells();
        }

        private void clear() {
            for (int cell = 0; cell < CELLS; cell++) {
                cells[cell] = 0;
            }
            ranked = 0;
            heard = 0;
            known = 0;
            all = 0;
        }

        private void castFor(Ledger ledger, int key, int u) {
            int count = ledger.placesOf(key);
            if (count > 0) {
                known++;
            }
            for (int i = 0; i < count; i++) {
                int place = ledger.placeOf(key, i);
                int piece = place / 1000;
                int offset = place % 1000 - u;
                cells[piece * OFFSETS + offset + FARTHEST_OFFSET]++;
                all++;
            }
        }

        /** Cells come by piece, then offset; each goes behind all with as many votes, which keeps that order among them. */
        private void rankCells() {
            for (int cell = 0; cell < CELLS; cell++) {
                if (cells[cell] > 0) {
                    int k = ranked;
                    while (k > 0 && cells[order[k - 1]] < cells[cell]) {
                        order[k] = order[k - 1];
                        k--;
                    }
                    order[k] = cell;
                    ranked++;
                }
            }
        }
    }
}
