/** Each promise of the document by hand-reckoned runs: ordinary inputs, edges, wrong inputs. */
public final class PromisesTest {
    private static final int NONE = -1, UNKNOWN = -1000000001, OUTSIDE = -1000000002, NOT = -1000000003, FULL = -1000000004;
    private static final int MIN = Integer.MIN_VALUE, MAX = Integer.MAX_VALUE;
    private static int wrong = 0;

    private static void due(String call, int got, int want) {
        if (got != want) {
            wrong++;
            System.out.println(call + " answered " + got + ", due is " + want);
        }
    }

    public static void main(String[] args) {
        constants();
        newObject();
        add();
        wipe();
        lots();
        noise();
        louder();
        hear();
        bound();
        undo();
        undoOfEachCall();
        told();
        row();
        at();
        share();
        peak();
        key();
        keyAt();
        places();
        place();
        votes();
        ranksAndDoubt();
        rank();
        keep();
        goBack();
        refusedChangesNothing();
        System.out.println(wrong == 0 ? "promises: all answers are as due" : wrong + " answers are not as due");
        if (wrong != 0) {
            System.exit(1);
        }
    }

    /** A window that holds one wave alone, whose share is loud times loud. */
    private static void addWave(SoundPictures x, int piece, int wave, int loud) {
        for (int i = 0; i < 8; i++) {
            x.add(piece, Integer.bitCount(i & wave) % 2 == 0 ? loud : -loud);
        }
    }

    private static void addWaves(SoundPictures x, int piece, int... waves) {
        for (int wave : waves) {
            addWave(x, piece, wave, 20);
        }
    }

    private static void addAll(SoundPictures x, int piece, int... numbers) {
        for (int v : numbers) {
            x.add(piece, v);
        }
    }

    private static void dueRow(String when, SoundPictures x, int piece, int... numbers) {
        due(when + ": row(" + piece + ", 0)", x.row(piece, 0), numbers.length);
        for (int i = 0; i < numbers.length; i++) {
            due(when + ": at(" + piece + ", " + i + ")", x.at(piece, i), numbers[i]);
        }
    }

    private static void constants() {
        due("NONE", SoundPictures.NONE, NONE);
        due("UNKNOWN", SoundPictures.UNKNOWN, UNKNOWN);
        due("OUTSIDE", SoundPictures.OUTSIDE, OUTSIDE);
        due("NOT", SoundPictures.NOT, NOT);
        due("FULL", SoundPictures.FULL, FULL);
    }

    private static void newObject() {
        SoundPictures x = new SoundPictures();
        for (int piece = 0; piece <= 4; piece++) {
            for (int what = 0; what <= 4; what++) {
                due("1: row(" + piece + ", " + what + ")", x.row(piece, what), 0);
            }
            due("1: row(" + piece + ", 5)", x.row(piece, 5), NONE);
        }
        int[] told = {50, 3, 0, 0, 0, 0, NONE, 0, 0, 100, 0, 0, 0};
        for (int what = 0; what < told.length; what++) {
            due("1: told(" + what + ")", x.told(what), told[what]);
        }
        due("1: undo()", x.undo(), NOT);
        due("1: goBack(0)", x.goBack(0), NOT);
        due("1: goBack(1)", x.goBack(1), NOT);
    }

    private static void add() {
        SoundPictures x = new SoundPictures();
        due("2: add(0, 100)", x.add(0, 100), 1);
        due("2: add(0, -100)", x.add(0, -100), 2);
        due("2: add(4, 0)", x.add(4, 0), 1);
        due("2: add(3, 1)", x.add(3, 1), 1);
        dueRow("2", x, 0, 100, -100);
        dueRow("2", x, 4, 0);
        dueRow("2", x, 3, 1);
        due("2: add(-1, 0)", x.add(-1, 0), UNKNOWN);
        due("2: add(5, 101)", x.add(5, 101), UNKNOWN);
        due("2: add(MIN, 0)", x.add(MIN, 0), UNKNOWN);
        due("2: add(MAX, 0)", x.add(MAX, 0), UNKNOWN);
        due("2: add(0, 101)", x.add(0, 101), OUTSIDE);
        due("2: add(0, -101)", x.add(0, -101), OUTSIDE);
        due("2: add(0, MIN)", x.add(0, MIN), OUTSIDE);
        for (int i = 3; i <= 128; i++) {
            due("2: add(0, 7)", x.add(0, 7), i);
        }
        due("2: add(0, 7) to a full row", x.add(0, 7), FULL);
        due("2: add(0, 101) to a full row", x.add(0, 101), OUTSIDE);
        due("2: add(1, 7) beside a full row", x.add(1, 7), 1);
        due("2: row(0, 0)", x.row(0, 0), 128);
        due("2: at(0, 127)", x.at(0, 127), 7);
    }

    private static void wipe() {
        SoundPictures x = new SoundPictures();
        due("3: wipe(0) of no numbers", x.wipe(0), 0);
        due("3: told(12)", x.told(12), 1);
        addAll(x, 1, 1, 2, 3);
        addAll(x, 2, 9);
        due("3: wipe(1)", x.wipe(1), 3);
        due("3: row(1, 0)", x.row(1, 0), 0);
        due("3: at(1, 0)", x.at(1, 0), OUTSIDE);
        dueRow("3", x, 2, 9);
        due("3: add(1, 5)", x.add(1, 5), 1);
        due("3: at(1, 0)", x.at(1, 0), 5);
        due("3: wipe(-1)", x.wipe(-1), UNKNOWN);
        due("3: wipe(5)", x.wipe(5), UNKNOWN);
        due("3: wipe(MAX)", x.wipe(MAX), UNKNOWN);
    }

    private static void lots() {
        SoundPictures x = new SoundPictures();
        addAll(x, 1, 1, 2, 3);
        due("4: lots(1, 2, 1)", x.lots(1, 2, 1), 0);
        // 16807 leaves 124 by 201; 16807 times 16807 is 282475249 and leaves 100.
        dueRow("4", x, 1, 24, 0);
        due("4: lots(3, 1, 1)", x.lots(3, 1, 1), 0);
        dueRow("4", x, 3, 24);
        due("4: lots(2, 7, 1)", x.lots(2, 7, 1), 0);
        due("4: lots(2, 8, 1)", x.lots(2, 8, 1), 1);
        due("4: lots(4, 128, 999999)", x.lots(4, 128, 999999), 16);
        // 16807 times 999999 is 16806983193, which leaves 1774597664 by 2147483647, and that 20 by 201.
        due("4: at(4, 0)", x.at(4, 0), -80);
        due("4: lots(5, 0, 0)", x.lots(5, 0, 0), UNKNOWN);
        due("4: lots(-1, 1, 1)", x.lots(-1, 1, 1), UNKNOWN);
        due("4: lots(0, 0, 1)", x.lots(0, 0, 1), OUTSIDE);
        due("4: lots(0, 129, 1)", x.lots(0, 129, 1), OUTSIDE);
        due("4: lots(0, MIN, 1)", x.lots(0, MIN, 1), OUTSIDE);
        due("4: lots(0, 1, 0)", x.lots(0, 1, 0), OUTSIDE);
        due("4: lots(0, 1, 1000000)", x.lots(0, 1, 1000000), OUTSIDE);
        due("4: lots(0, 1, MIN)", x.lots(0, 1, MIN), OUTSIDE);
        due("4: row(0, 0)", x.row(0, 0), 0);
    }

    private static void noise() {
        SoundPictures x = new SoundPictures();
        due("5: noise(0, 1, 1) of no numbers", x.noise(0, 1, 1), 0);
        due("5: told(12)", x.told(12), 1);
        addAll(x, 0, 10, 10, 100, -100);
        // Lots of seed 1: 16807, 282475249, 1622650073, 984943658; by 3 they leave 1, 1, 2, 2.
        due("5: noise(0, 1, 1)", x.noise(0, 1, 1), 1);
        dueRow("5", x, 0, 10, 10, 100, -99);
        // By 201 they leave 124, 100, 188, 41, of which 100 is taken off: 24, 0, 88, -59.
        due("5: noise(0, 100, 1)", x.noise(0, 100, 1), 2);
        dueRow("5", x, 0, 34, 10, 100, -100);
        due("5: noise(5, 0, 0)", x.noise(5, 0, 0), UNKNOWN);
        due("5: noise(-1, 1, 1)", x.noise(-1, 1, 1), UNKNOWN);
        due("5: noise(0, 0, 1)", x.noise(0, 0, 1), OUTSIDE);
        due("5: noise(0, 101, 1)", x.noise(0, 101, 1), OUTSIDE);
        due("5: noise(0, MAX, 1)", x.noise(0, MAX, 1), OUTSIDE);
        due("5: noise(0, 1, 0)", x.noise(0, 1, 0), OUTSIDE);
        due("5: noise(0, 1, 1000000)", x.noise(0, 1, 1000000), OUTSIDE);
        dueRow("5, refused", x, 0, 34, 10, 100, -100);
    }

    private static void louder() {
        SoundPictures x = new SoundPictures();
        due("6: louder(0, 1, 1) of no numbers", x.louder(0, 1, 1), 0);
        addAll(x, 0, 0, 1, -1, 7, -7, 67, -67, 100, -100);
        due("6: louder(0, 3, 2)", x.louder(0, 3, 2), 4);
        dueRow("6", x, 0, 0, 1, -1, 10, -10, 100, -100, 100, -100);
        due("6: louder(0, 1, 3)", x.louder(0, 1, 3), 8);
        dueRow("6", x, 0, 0, 0, 0, 3, -3, 33, -33, 33, -33);
        addAll(x, 1, 8, -5);
        due("6: louder(1, 9, 4)", x.louder(1, 9, 4), 2);
        dueRow("6", x, 1, 18, -11);
        due("6: louder(0, 9, 9)", x.louder(0, 9, 9), 0);
        due("6: louder(4, 9, 1)", x.louder(4, 9, 1), 0);
        due("6: louder(5, 0, 0)", x.louder(5, 0, 0), UNKNOWN);
        due("6: louder(-1, 1, 1)", x.louder(-1, 1, 1), UNKNOWN);
        due("6: louder(0, 0, 1)", x.louder(0, 0, 1), OUTSIDE);
        due("6: louder(0, 10, 1)", x.louder(0, 10, 1), OUTSIDE);
        due("6: louder(0, 1, 0)", x.louder(0, 1, 0), OUTSIDE);
        due("6: louder(0, 1, 10)", x.louder(0, 1, 10), OUTSIDE);
        due("6: louder(0, 1, MIN)", x.louder(0, 1, MIN), OUTSIDE);
        dueRow("6, refused", x, 0, 0, 0, 0, 3, -3, 33, -33, 33, -33);
    }

    private static void hear() {
        SoundPictures x = new SoundPictures();
        addAll(x, 0, 1, 2, 3, 4, 5);
        addAll(x, 4, 50, 51, 52, 53, 54, 55);
        due("7: hear(0, 1, 3)", x.hear(0, 1, 3), 3);
        dueRow("7", x, 4, 2, 3, 4);
        dueRow("7", x, 0, 1, 2, 3, 4, 5);
        due("7: hear(0, 3, 128)", x.hear(0, 3, 128), 2);
        dueRow("7", x, 4, 4, 5);
        due("7: hear(0, 4, 1)", x.hear(0, 4, 1), 1);
        dueRow("7", x, 4, 5);
        due("7: hear(0, 5, 1)", x.hear(0, 5, 1), NOT);
        due("7: hear(1, 0, 1)", x.hear(1, 0, 1), NOT);
        due("7: hear(4, -1, 0)", x.hear(4, -1, 0), UNKNOWN);
        due("7: hear(-1, 0, 1)", x.hear(-1, 0, 1), UNKNOWN);
        due("7: hear(MAX, 0, 1)", x.hear(MAX, 0, 1), UNKNOWN);
        due("7: hear(1, -1, 1)", x.hear(1, -1, 1), OUTSIDE);
        due("7: hear(1, 128, 1)", x.hear(1, 128, 1), OUTSIDE);
        due("7: hear(1, 0, 0)", x.hear(1, 0, 0), OUTSIDE);
        due("7: hear(1, 0, 129)", x.hear(1, 0, 129), OUTSIDE);
        due("7: hear(0, MAX, MAX)", x.hear(0, MAX, MAX), OUTSIDE);
        dueRow("7, refused", x, 4, 5);
        x.lots(3, 128, 77);
        due("7: hear(3, 127, 128)", x.hear(3, 127, 128), 1);
        due("7: at(4, 0)", x.at(4, 0), x.at(3, 127));
        due("7: hear(3, 0, 128)", x.hear(3, 0, 128), 128);
        due("7: at(4, 127)", x.at(4, 127), x.at(3, 127));
    }

    private static void bound() {
        SoundPictures x = new SoundPictures();
        due("8: bound(0, 0)", x.bound(0, 0), 50);
        due("8: bound(0, 99999)", x.bound(0, 99999), 0);
        due("8: bound(1, 1)", x.bound(1, 1), 3);
        due("8: bound(1, 5)", x.bound(1, 5), 1);
        due("8: bound(1, 5) again", x.bound(1, 5), 5);
        due("8: told(12)", x.told(12), 5);
        due("8: bound(0, -1)", x.bound(0, -1), OUTSIDE);
        due("8: bound(0, 100000)", x.bound(0, 100000), OUTSIDE);
        due("8: bound(1, 0)", x.bound(1, 0), OUTSIDE);
        due("8: bound(1, 6)", x.bound(1, 6), OUTSIDE);
        due("8: bound(2, 3)", x.bound(2, 3), OUTSIDE);
        due("8: bound(-1, 3)", x.bound(-1, 3), OUTSIDE);
        due("8: told(0)", x.told(0), 99999);
        due("8: told(1)", x.told(1), 5);
        due("8: told(12)", x.told(12), 5);
    }

    private static void undo() {
        SoundPictures x = new SoundPictures();
        for (int i = 1; i <= 10; i++) {
            x.add(0, i);
            due("9: told(12)", x.told(12), Math.min(i, 8));
        }
        for (int i = 7; i >= 0; i--) {
            due("9: undo()", x.undo(), i);
            due("9: row(0, 0)", x.row(0, 0), i + 2);
        }
        due("9: undo() of none", x.undo(), NOT);
        dueRow("9", x, 0, 1, 2);
        x.add(0, 33);
        due("9: undo()", x.undo(), 0);
        dueRow("9", x, 0, 1, 2);
    }

    private static void undoOfEachCall() {
        SoundPictures x = new SoundPictures();
        addAll(x, 1, 10, 20, -30);
        addAll(x, 4, 5, 6);
        x.add(1, 40);
        x.wipe(1);
        x.lots(1, 5, 3);
        x.noise(1, 100, 4);
        x.louder(1, 9, 1);
        x.hear(1, 2, 9);
        x.bound(0, 7);
        x.bound(1, 4);
        due("9: undo() of bound(1, 4)", x.undo(), 7);
        due("9: told(1)", x.told(1), 3);
        due("9: told(0)", x.told(0), 7);
        due("9: undo() of bound(0, 7)", x.undo(), 6);
        due("9: told(0)", x.told(0), 50);
        due("9: row(4, 0)", x.row(4, 0), 3);
        due("9: undo() of hear", x.undo(), 5);
        dueRow("9", x, 4, 5, 6);
        due("9: undo() of louder", x.undo(), 4);
        due("9: undo() of noise", x.undo(), 3);
        long lot = 3;
        int[] want = new int[5];
        for (int i = 0; i < 5; i++) {
            lot = lot * 16807 % 2147483647L;
            want[i] = (int) (lot % 201) - 100;
        }
        dueRow("9", x, 1, want);
        due("9: undo() of lots", x.undo(), 2);
        due("9: row(1, 0)", x.row(1, 0), 0);
        due("9: undo() of wipe", x.undo(), 1);
        dueRow("9", x, 1, 10, 20, -30, 40);
        due("9: undo() of add", x.undo(), 0);
        dueRow("9", x, 1, 10, 20, -30);
    }

    /** Piece 0: waves 1 2 3 1 2; piece 2: waves 1 2 1. REACH is 1 unless it is told otherwise. */
    private static SoundPictures twoPieces() {
        SoundPictures x = new SoundPictures();
        addWaves(x, 0, 1, 2, 3, 1, 2);
        addWaves(x, 2, 1, 2, 1);
        x.bound(1, 1);
        return x;
    }

    private static void dueTold(String when, SoundPictures x, int... wants) {
        for (int what = 0; what < wants.length; what++) {
            due(when + ": told(" + what + ")", x.told(what), wants[what]);
        }
    }

    private static void told() {
        SoundPictures x = twoPieces();
        // Keys 12 (0: 0, 3; 2: 0), 23 (0: 1), 31 (0: 2), 21 (2: 1).
        dueTold("10", x, 50, 1, 4, 6, 0, 0, NONE, 0, 0, 100, 0, 0, 8);
        // Heard 4 1 2 5: key 12 at 1 is known, 41 and 25 are not.
        addWaves(x, 4, 4, 1, 2, 5);
        dueTold("10", x, 50, 1, 4, 6, 3, 1, 0, -1, 1, 100, 3, 3, 8);
        // Heard 1 2 3 behind them: 12 at 1 and 4, 51 at 3, 23 at 5.
        addWaves(x, 4, 1, 2, 3);
        // 12 at 1: (0, -1), (0, 2), (2, -1); 12 at 4: (0, -4), (0, -1), (2, -4); 23 at 5: (0, -4).
        dueTold("10", x, 50, 1, 4, 6, 6, 3, 0, -4, 2, 50, 5, 7, 8);
        due("10: told(-1)", x.told(-1), OUTSIDE);
        due("10: told(13)", x.told(13), OUTSIDE);
        due("10: told(MIN)", x.told(MIN), OUTSIDE);
        due("10: told(MAX)", x.told(MAX), OUTSIDE);
        SoundPictures full = fullOfKeys();
        int all = 4 * (15 * 15 + 14 * 14 + 13 * 13 + 12 * 12 + 11 * 11);
        dueTold("10, as many keys as can be", full, 0, 5, 5, 260, 65, 65, 0, 0, 65, 100, 4 * 29, all, 8);
        x.bound(1, 2);
        // With REACH 2 there come in the pieces 13 21 32 and 11, far by two.
        due("10: told(2), REACH 2", x.told(2), 8);
        due("10: told(3), REACH 2", x.told(3), 10);
        x.bound(0, 400);
        due("10: told(3), FLOOR 400", x.told(3), 10);
        x.bound(0, 401);
        dueTold("10, FLOOR 401", x, 401, 2, 0, 0, 0, 0, NONE, 0, 0, 100, 0, 0, 8);
    }

    private static void row() {
        SoundPictures x = new SoundPictures();
        addWave(x, 1, 3, 20);
        addWave(x, 1, 0, 90);
        addWave(x, 1, 2, 30);
        addWave(x, 1, 2, 7);
        x.add(1, 99);
        int[] want = {33, 4, 2, 1, 400 + 8100 + 900 + 49, 2};
        for (int what = 0; what < want.length; what++) {
            due("11: row(1, " + what + ")", x.row(1, what), want[what]);
        }
        x.bound(0, 49);
        // Windows 0, 2, 3 have peaks 3, 2, 2; their keys stand at 0 (2, 3) and 2 (3).
        due("11: row(1, 2), FLOOR 49", x.row(1, 2), 3);
        due("11: row(1, 3), FLOOR 49", x.row(1, 3), 3);
        due("11: row(1, 5), FLOOR 49", x.row(1, 5), 2);
        addAll(x, 4, 1, 0, 0, 0, 0, 0, 0, 0);
        due("11: row(4, 4): each share is cut by itself", x.row(4, 4), 0);
        due("11: row(4, 1)", x.row(4, 1), 1);
        due("11: row(4, 5)", x.row(4, 5), NONE);
        due("11: row(5, 6)", x.row(5, 6), UNKNOWN);
        due("11: row(-1, 0)", x.row(-1, 0), UNKNOWN);
        due("11: row(0, -1)", x.row(0, -1), OUTSIDE);
        due("11: row(0, 6)", x.row(0, 6), OUTSIDE);
        due("11: row(0, MAX)", x.row(0, MAX), OUTSIDE);
        due("11: row(1, 5), of like ones the least", mostOftenOf(6, 2, 2, 6), 2);
        due("11: row(1, 5), the first window counts", mostOftenOf(6, 2), 2);
        due("11: row(1, 5)", mostOftenOf(6, 2, 6), 6);
        SoundPictures y = fullOfKeys();
        for (int piece = 0; piece <= 4; piece++) {
            due("11: row(" + piece + ", 3) at most", y.row(piece, 3), 65);
        }
    }

    private static int mostOftenOf(int... waves) {
        SoundPictures x = new SoundPictures();
        addWaves(x, 1, waves);
        return x.row(1, 5);
    }

    /** As many keys as there can be, all of peaks 1: each row has 15, 14, 13, 12, 11 of them, far by 1 to 5. */
    private static SoundPictures fullOfKeys() {
        SoundPictures x = new SoundPictures();
        x.bound(0, 0);
        x.bound(1, 5);
        for (int piece = 0; piece <= 4; piece++) {
            x.lots(piece, 128, 1);
            // 100 / 9 is 11, then 1, then 0: rows of 0 alone.
            x.louder(piece, 1, 9);
            x.louder(piece, 1, 9);
            x.louder(piece, 1, 9);
        }
        return x;
    }

    private static void at() {
        SoundPictures x = new SoundPictures();
        addAll(x, 3, 4, -1, 100);
        due("12: at(3, 0)", x.at(3, 0), 4);
        due("12: at(3, 1)", x.at(3, 1), -1);
        due("12: at(3, 2)", x.at(3, 2), 100);
        due("12: at(3, 3)", x.at(3, 3), OUTSIDE);
        due("12: at(3, -1)", x.at(3, -1), OUTSIDE);
        due("12: at(3, MIN)", x.at(3, MIN), OUTSIDE);
        due("12: at(3, MAX)", x.at(3, MAX), OUTSIDE);
        due("12: at(4, 0)", x.at(4, 0), OUTSIDE);
        due("12: at(5, -1)", x.at(5, -1), UNKNOWN);
        due("12: at(-1, 0)", x.at(-1, 0), UNKNOWN);
    }

    private static void share() {
        SoundPictures x = new SoundPictures();
        for (int wave = 0; wave < 8; wave++) {
            addWave(x, 4, wave, 11);
        }
        for (int window = 0; window < 8; window++) {
            for (int wave = 0; wave < 8; wave++) {
                due("13: share(4, " + window + ", " + wave + ")", x.share(4, window, wave), window == wave ? 121 : 0);
            }
        }
        addAll(x, 0, 1, 2, 3, 4, 5, 6, 7, 8);
        // The turns make 36, -4, -8, 0, -16, 0, 0, 0 of these.
        int[] want = {20, 0, 1, 0, 4, 0, 0, 0};
        for (int wave = 0; wave < 8; wave++) {
            due("13: share(0, 0, " + wave + ")", x.share(0, 0, wave), want[wave]);
        }
        due("13: share(0, 0, 8)", x.share(0, 0, 8), OUTSIDE);
        due("13: share(0, 0, -1)", x.share(0, 0, -1), OUTSIDE);
        due("13: share(0, 0, MAX)", x.share(0, 0, MAX), OUTSIDE);
        due("13: share(0, 1, 8)", x.share(0, 1, 8), UNKNOWN);
        due("13: share(0, -1, 0)", x.share(0, -1, 0), UNKNOWN);
        due("13: share(0, MAX, 0)", x.share(0, MAX, 0), UNKNOWN);
        due("13: share(0, MIN, 0)", x.share(0, MIN, 0), UNKNOWN);
        due("13: share(5, 0, 0)", x.share(5, 0, 0), UNKNOWN);
        due("13: share(-1, 0, 0)", x.share(-1, 0, 0), UNKNOWN);
        addAll(x, 0, 1, 2, 3, 4, 5, 6, 7);
        due("13: share(0, 1, 0) of a window that is not whole", x.share(0, 1, 0), UNKNOWN);
        x.add(0, 8);
        due("13: share(0, 1, 0)", x.share(0, 1, 0), 20);
    }

    private static void peak() {
        SoundPictures x = new SoundPictures();
        addWaves(x, 0, 5, 0, 7);
        due("14: peak(0, 0)", x.peak(0, 0), 5);
        due("14: peak(0, 1), wave 0 is none", x.peak(0, 1), NONE);
        due("14: peak(0, 2)", x.peak(0, 2), 7);
        due("14: peak(0, 3)", x.peak(0, 3), UNKNOWN);
        due("14: peak(0, -1)", x.peak(0, -1), UNKNOWN);
        due("14: peak(5, 0)", x.peak(5, 0), UNKNOWN);
        due("14: peak(-1, 0)", x.peak(-1, 0), UNKNOWN);
        due("14: peak(MAX, MAX)", x.peak(MAX, MAX), UNKNOWN);
        x.bound(0, 400);
        due("14: peak(0, 0) at FLOOR", x.peak(0, 0), 5);
        x.bound(0, 401);
        due("14: peak(0, 0) below FLOOR", x.peak(0, 0), NONE);
        x.bound(0, 0);
        due("14: peak(0, 1), all shares 0, FLOOR 0", x.peak(0, 1), 1);
        // One number alone makes like shares of all waves.
        addAll(x, 1, 0, 0, 0, 80, 0, 0, 0, 0);
        due("14: peak(1, 0) of like ones", x.peak(1, 0), 1);
        // Two numbers: waves 2 and 3, 6 and 7 and so on take all, 1 none.
        addAll(x, 2, 80, -80, 0, 0, 0, 0, 0, 0);
        due("14: share(2, 0, 1)", x.share(2, 0, 1), 400);
        due("14: peak(2, 0)", x.peak(2, 0), 1);
        addAll(x, 3, 80, 80, 0, 0, 0, 0, 0, 0);
        due("14: share(3, 0, 1)", x.share(3, 0, 1), 0);
        due("14: peak(3, 0)", x.peak(3, 0), 2);
    }

    private static void key() {
        SoundPictures x = new SoundPictures();
        addWaves(x, 4, 7, 0, 1, 6, 7, 2);
        due("15: key(4, 0, 2)", x.key(4, 0, 2), 128 + 56 + 1);
        due("15: key(4, 0, 3)", x.key(4, 0, 3), 192 + 56 + 6);
        due("15: key(4, 2, 3)", x.key(4, 2, 3), 64 + 8 + 6);
        due("15: key(4, 0, 4) beyond REACH", x.key(4, 0, 4), NONE);
        due("15: key(4, 0, 1) without a peak", x.key(4, 0, 1), NONE);
        due("15: key(4, 1, 2) without a peak", x.key(4, 1, 2), NONE);
        due("15: key(4, 2, 2)", x.key(4, 2, 2), NONE);
        due("15: key(4, 3, 2)", x.key(4, 3, 2), NONE);
        due("15: key(4, 0, 6)", x.key(4, 0, 6), UNKNOWN);
        due("15: key(4, 6, 0)", x.key(4, 6, 0), UNKNOWN);
        due("15: key(4, -1, 0)", x.key(4, -1, 0), UNKNOWN);
        due("15: key(4, 0, MAX)", x.key(4, 0, MAX), UNKNOWN);
        due("15: key(5, 0, 2)", x.key(5, 0, 2), UNKNOWN);
        due("15: key(-1, 0, 2)", x.key(-1, 0, 2), UNKNOWN);
        x.bound(1, 5);
        due("15: key(4, 0, 5), REACH 5", x.key(4, 0, 5), 320 + 56 + 2);
        x.bound(1, 1);
        due("15: key(4, 2, 3), REACH 1", x.key(4, 2, 3), 78);
        due("15: key(4, 2, 4), REACH 1", x.key(4, 2, 4), NONE);
    }

    private static void keyAt() {
        SoundPictures x = twoPieces();
        int[] want = {64 + 8 + 2, 64 + 16 + 1, 64 + 16 + 3, 64 + 24 + 1, NONE};
        for (int k = 0; k < want.length; k++) {
            due("16: keyAt(" + k + ")", x.keyAt(k), want[k]);
        }
        due("16: keyAt(MAX)", x.keyAt(MAX), NONE);
        due("16: keyAt(-1)", x.keyAt(-1), OUTSIDE);
        due("16: keyAt(MIN)", x.keyAt(MIN), OUTSIDE);
        addWaves(x, 4, 1, 1, 1);
        due("16: keyAt(0), what is heard is not in it", x.keyAt(0), 74);
        SoundPictures y = new SoundPictures();
        y.bound(1, 5);
        addWaves(y, 3, 7, 7, 7, 7, 7, 7);
        due("16: keyAt(4)", y.keyAt(4), 383);
        due("16: keyAt(5)", y.keyAt(5), NONE);
    }

    private static void places() {
        SoundPictures x = twoPieces();
        due("17: places(74)", x.places(74), 3);
        due("17: places(83)", x.places(83), 1);
        due("17: places(64)", x.places(64), 0);
        due("17: places(383)", x.places(383), 0);
        due("17: places(63)", x.places(63), OUTSIDE);
        due("17: places(384)", x.places(384), OUTSIDE);
        due("17: places(MIN)", x.places(MIN), OUTSIDE);
        due("17: places(MAX)", x.places(MAX), OUTSIDE);
        addWaves(x, 4, 1, 2);
        due("17: places(74), what is heard is not in it", x.places(74), 3);
        addWaves(x, 1, 1, 2);
        due("17: places(74)", x.places(74), 4);
        x.wipe(0);
        due("17: places(74), a piece wiped", x.places(74), 2);
        x.undo();
        due("17: places(74), undone", x.places(74), 4);
    }

    private static void place() {
        SoundPictures x = twoPieces();
        int[] want = {0, 3, 2000, NONE};
        for (int i = 0; i < want.length; i++) {
            due("18: place(74, " + i + ")", x.place(74, i), want[i]);
        }
        due("18: place(81, 0)", x.place(81, 0), 2001);
        due("18: place(74, MAX)", x.place(74, MAX), NONE);
        due("18: place(64, 0)", x.place(64, 0), NONE);
        due("18: place(383, 0)", x.place(383, 0), NONE);
        due("18: place(74, -1)", x.place(74, -1), OUTSIDE);
        due("18: place(74, MIN)", x.place(74, MIN), OUTSIDE);
        due("18: place(63, 0)", x.place(63, 0), OUTSIDE);
        due("18: place(384, 0)", x.place(384, 0), OUTSIDE);
        due("18: place(MAX, 0)", x.place(MAX, 0), OUTSIDE);
        addWaves(x, 1, 3, 1, 2);
        due("18: place(74, 2)", x.place(74, 2), 1001);
        due("18: place(74, 3)", x.place(74, 3), 2000);
    }

    private static void votes() {
        SoundPictures x = twoPieces();
        addWaves(x, 4, 4, 1, 2, 5, 1, 2, 3);
        due("19: votes(0, -1)", x.votes(0, -1), 2);
        due("19: votes(0, 2)", x.votes(0, 2), 1);
        due("19: votes(0, -4)", x.votes(0, -4), 2);
        due("19: votes(2, -1)", x.votes(2, -1), 1);
        due("19: votes(2, -4)", x.votes(2, -4), 1);
        due("19: votes(0, 0)", x.votes(0, 0), 0);
        due("19: votes(1, -1)", x.votes(1, -1), 0);
        due("19: votes(3, 15)", x.votes(3, 15), 0);
        due("19: votes(0, -15)", x.votes(0, -15), 0);
        due("19: votes(0, 16)", x.votes(0, 16), OUTSIDE);
        due("19: votes(0, -16)", x.votes(0, -16), OUTSIDE);
        due("19: votes(0, MAX)", x.votes(0, MAX), OUTSIDE);
        due("19: votes(4, 16)", x.votes(4, 16), UNKNOWN);
        due("19: votes(-1, 0)", x.votes(-1, 0), UNKNOWN);
        SoundPictures y = new SoundPictures();
        y.bound(1, 1);
        addWaves(y, 3, 0, 0, 0, 0, 0, 0, 0, 0, 0, 0, 0, 0, 0, 0, 5, 6);
        addWaves(y, 4, 5, 6);
        due("19: votes(3, 14)", y.votes(3, 14), 1);
        due("19: told(7)", y.told(7), 14);
        addWaves(y, 0, 5, 6);
        y.hear(3, 0, 128);
        due("19: votes(0, -14)", y.votes(0, -14), 1);
    }

    private static void ranksAndDoubt() {
        SoundPictures x = new SoundPictures();
        x.bound(1, 1);
        addWaves(x, 1, 1, 2, 3, 4);
        addWaves(x, 3, 1, 2, 3);
        x.hear(1, 0, 128);
        due("10: told(6)", x.told(6), 1);
        due("10: told(8)", x.told(8), 3);
        due("10: told(9), 2 of 3 votes", x.told(9), 66);
        x.wipe(3);
        due("10: told(9), no other piece", x.told(9), 0);
        addWaves(x, 0, 4, 1, 2, 3, 4);
        due("10: told(6), of like ones the lesser piece", x.told(6), 0);
        due("10: told(7)", x.told(7), 1);
        due("10: told(9), of like ones", x.told(9), 100);
        x.wipe(0);
        x.wipe(1);
        due("10: told(9), no votes", x.told(9), 100);
        due("10: told(7), no votes", x.told(7), 0);
    }

    private static void rank() {
        SoundPictures x = twoPieces();
        addWaves(x, 4, 4, 1, 2, 5, 1, 2, 3);
        int[][] want = {{0, 96, 2}, {0, 99, 2}, {0, 102, 1}, {2, 96, 1}, {2, 99, 1}, {NONE, NONE, NONE}};
        for (int k = 0; k < want.length; k++) {
            for (int what = 0; what < 3; what++) {
                due("20: rank(" + k + ", " + what + ")", x.rank(k, what), want[k][what]);
            }
        }
        due("20: rank(MAX, 0)", x.rank(MAX, 0), NONE);
        due("20: rank(-1, 0)", x.rank(-1, 0), OUTSIDE);
        due("20: rank(MIN, 0)", x.rank(MIN, 0), OUTSIDE);
        due("20: rank(0, -1)", x.rank(0, -1), OUTSIDE);
        due("20: rank(0, 3)", x.rank(0, 3), OUTSIDE);
        due("20: rank(99, 3)", x.rank(99, 3), OUTSIDE);
        // More votes go ahead of a lesser piece.
        addWaves(x, 3, 0, 0, 4, 1, 2, 5);
        due("20: rank(0, 0)", x.rank(0, 0), 3);
        due("20: rank(0, 1)", x.rank(0, 1), 102);
        due("20: rank(0, 2)", x.rank(0, 2), 3);
        due("20: rank(1, 0)", x.rank(1, 0), 0);
    }

    private static void keep() {
        SoundPictures x = new SoundPictures();
        addAll(x, 0, 1, 2);
        addAll(x, 4, 3);
        x.bound(0, 9);
        due("21: keep(1)", x.keep(1), 1);
        due("21: told(12)", x.told(12), 0);
        due("21: undo()", x.undo(), NOT);
        dueRow("21", x, 0, 1, 2);
        due("21: goBack(0), another one", x.goBack(0), NOT);
        x.add(0, 5);
        due("21: keep(-1)", x.keep(-1), UNKNOWN);
        due("21: keep(2)", x.keep(2), UNKNOWN);
        due("21: keep(MAX)", x.keep(MAX), UNKNOWN);
        due("21: told(12), refused", x.told(12), 1);
        due("21: keep(1) anew", x.keep(1), 1);
        x.wipe(0);
        due("21: goBack(1)", x.goBack(1), 1);
        dueRow("21", x, 0, 1, 2, 5);
    }

    private static void goBack() {
        SoundPictures x = new SoundPictures();
        x.keep(0);
        addWaves(x, 0, 1, 2);
        addWaves(x, 4, 1, 2);
        x.bound(0, 100);
        x.bound(1, 5);
        x.keep(1);
        due("22: told(8)", x.told(8), 1);
        x.add(2, 6);
        due("22: goBack(0)", x.goBack(0), 1);
        dueTold("22", x, 50, 3, 0, 0, 0, 0, NONE, 0, 0, 100, 0, 0, 0);
        due("22: row(0, 0)", x.row(0, 0), 0);
        due("22: undo()", x.undo(), NOT);
        x.lots(0, 20, 20);
        due("22: goBack(1)", x.goBack(1), 1);
        dueTold("22", x, 100, 5, 1, 1, 1, 1, 0, 0, 1, 0, 1, 1, 0);
        due("22: row(2, 0)", x.row(2, 0), 0);
        x.wipe(0);
        due("22: goBack(1), an image stays", x.goBack(1), 1);
        due("22: row(0, 0)", x.row(0, 0), 16);
        due("22: goBack(-1)", x.goBack(-1), UNKNOWN);
        due("22: goBack(2)", x.goBack(2), UNKNOWN);
        due("22: goBack(MIN)", x.goBack(MIN), UNKNOWN);
        x.wipe(0);
        due("22: told(6) ahead of goBack", x.told(6), NONE);
        x.goBack(1);
        due("22: told(6) behind goBack", x.told(6), 0);
        for (int piece = 0; piece <= 4; piece++) {
            x.wipe(piece);
            x.add(piece, 11 + piece);
        }
        x.keep(0);
        for (int piece = 0; piece <= 4; piece++) {
            x.louder(piece, 2, 1);
        }
        x.goBack(0);
        for (int piece = 0; piece <= 4; piece++) {
            dueRow("22", x, piece, 11 + piece);
        }
        SoundPictures y = new SoundPictures();
        y.add(0, 1);
        due("22: goBack(0) that was not kept", y.goBack(0), NOT);
        due("22: told(12), refused", y.told(12), 1);
    }

    private static void refusedChangesNothing() {
        SoundPictures x = twoPieces();
        x.keep(0);
        x.add(5, 0);
        x.add(0, 101);
        x.wipe(5);
        x.lots(0, 0, 1);
        x.lots(0, 8, 0);
        x.noise(0, 0, 1);
        x.noise(0, 1, 0);
        x.louder(0, 0, 1);
        x.louder(0, 1, 0);
        x.hear(0, 127, 1);
        x.hear(0, 0, 0);
        x.hear(1, 0, 1);
        x.bound(0, -1);
        x.bound(1, 0);
        x.bound(2, 0);
        due("refused: told(12)", x.told(12), 0);
        dueTold("refused", x, 50, 1, 4, 6, 0, 0, NONE, 0, 0, 100, 0, 0, 0);
        due("refused: row(0, 0)", x.row(0, 0), 40);
        due("refused: row(2, 0)", x.row(2, 0), 24);
        due("refused: row(4, 0)", x.row(4, 0), 0);
        SoundPictures y = new SoundPictures();
        y.lots(0, 128, 5);
        y.add(0, 1);
        due("refused: told(12) behind FULL", y.told(12), 1);
    }
}
