/** "Terms" 1: rows that are empty, short and full, windows, waves, peaks and keys, at their edges. */
public final class WindowsTest extends Sentences {
    private WindowsTest() {
    }

    public static void main(String[] args) {
        fiveRows();
        numbersFromZeroOn();
        rowsOfEachLength();
        notWholeIsNone();
        theLastWindow();
        shareOfTheLeastAndTheGreatest();
        shareIsCut();
        shareOfEachTurn();
        theThreeTurnsByHand();
        peakOfWavesOneToSeven();
        peakOfLikeOnes();
        peakAtFloor();
        peakAtFloorAtFirst();
        peakAtTheBoundsOfFloor();
        whatIsToldOfARow();
        keyOfTheReach();
        keyOfBothPeaks();
        keyLeastAndGreatest();
        keyAtTheEndOfARow();
        finish("windows");
    }

    /** What is done to one row is not seen in another. */
    private static void fiveRows() {
        terms("PIECES 0 .. 3, and 4, WHAT IS HEARD: rows of at most 128 numbers");
        Noted x = new Noted();
        for (int piece = 0; piece <= 4; piece++) {
            x.numbers(piece, 10 + piece, -10 - piece);
        }
        for (int piece = 0; piece <= 4; piece++) {
            dueRow(x, piece, 10 + piece, -10 - piece);
        }
        due(x.louder(2, 2, 1), 2);
        due(x.wipe(0), 2);
        due(x.hear(3, 1, 1), 1);
        dueRow(x, 0);
        dueRow(x, 1, 11, -11);
        dueRow(x, 2, 24, -24);
        dueRow(x, 3, 13, -13);
        dueRow(x, 4, -13);
    }

    private static void numbersFromZeroOn() {
        terms("What has a number has it from 0 on, as it comes.");
        Noted x = new Noted().waves(0, 5, 6).waves(4, 5, 6);
        due(x.at(0, 0), 20);
        due(x.peak(0, 0), 5);
        due(x.peak(0, 1), 6);
        due(x.keyAt(0), 64 + 40 + 6);
        due(x.place(64 + 40 + 6, 0), 0);
        due(x.rank(0, 2), 1);
        due(x.at(0, -1), OUTSIDE);
        due(x.peak(0, -1), UNKNOWN);
        due(x.keyAt(-1), OUTSIDE);
        due(x.rank(-1, 2), OUTSIDE);
    }

    private static void rowsOfEachLength() {
        terms("WINDOW w of one: the 8 numbers from 8 w on; one that is not whole is none.");
        for (int piece = 0; piece <= 4; piece++) {
            Noted x = new Noted();
            for (int n = 1; n <= 128; n++) {
                due(x.add(piece, 1), n);
                due(x.row(piece, 1), n / 8);
            }
            due(x.add(piece, 1), FULL);
            due(x.row(piece, 1), 16);
            due(x.wipe(piece), 128);
            due(x.row(piece, 1), 0);
        }
    }

    private static void notWholeIsNone() {
        terms("one that is not whole is none");
        for (int piece = 0; piece <= 4; piece++) {
            Noted x = new Noted().many(piece, 7, 100);
            due(x.peak(piece, 0), UNKNOWN);
            due(x.share(piece, 0, 0), UNKNOWN);
            due(x.row(piece, 4), 0);
            due(x.add(piece, -100), 8);
            due(x.peak(piece, 0), 1);
            due(x.share(piece, 0, 0), 5625);
            x.many(piece, 7, 100);
            due(x.peak(piece, 1), UNKNOWN);
            due(x.key(piece, 0, 1), UNKNOWN);
            due(x.row(piece, 2), 1);
            due(x.row(piece, 3), 0);
            due(x.add(piece, -100), 16);
            due(x.peak(piece, 1), 1);
            due(x.key(piece, 0, 1), 73);
            due(x.row(piece, 3), 1);
            due(x.undo(), 7);
            due(x.peak(piece, 1), UNKNOWN);
            due(x.row(piece, 3), 0);
        }
    }

    /** A number left over from a longer row is no part of a window. */
    private static void theLastWindow() {
        terms("WINDOW w of one: the 8 numbers from 8 w on");
        Noted x = new Noted().many(3, 120, 0).wave(3, 6, 100);
        due(x.share(3, 14, 6), 0);
        due(x.share(3, 15, 6), 10000);
        due(x.share(3, 16, 6), UNKNOWN);
        due(x.peak(3, 15), 6);
        due(x.row(3, 2), 1);
        due(x.row(3, 4), 10000);
        due(x.row(3, 5), 6);
        x.lots(3, 127, 1);
        due(x.peak(3, 15), UNKNOWN);
        due(x.row(3, 1), 15);
    }

    private static void shareOfTheLeastAndTheGreatest() {
        terms("SHARE of WAVE k: the square of the number at place k then, / 64.");
        for (int wave = 0; wave <= 7; wave++) {
            due(new Noted().wave(0, wave, 100).share(0, 0, wave), 10000);
            due(new Noted().wave(0, wave, -100).share(0, 0, wave), 10000);
            due(new Noted().wave(0, wave, 100).share(0, 0, 7 - wave), 0);
            due(new Noted().wave(0, wave, 1).share(0, 0, wave), 1);
            due(new Noted().wave(0, wave, 0).share(0, 0, wave), 0);
        }
    }

    /** Of one number alone, v, every wave is v or -v. */
    private static void shareIsCut() {
        terms("All numbers are whole; / cuts towards 0.");
        int[][] want = {{7, 0}, {8, 1}, {11, 1}, {12, 2}, {15, 3}, {16, 4}, {100, 156}, {-7, 0}, {-8, 1}, {-100, 156}};
        for (int[] w : want) {
            Noted x = new Noted().numbers(2, 0, 0, 0, 0, 0, 0, 0, w[0]);
            for (int wave = 0; wave <= 7; wave++) {
                due(x.share(2, 0, wave), w[1]);
            }
            due(x.row(2, 4), 8 * w[1]);
        }
        // -1 / 2 is 0 and -3 / 2 is -1.
        Noted y = new Noted().numbers(0, -1, -3, 1, 3);
        due(y.louder(0, 1, 2), 4);
        dueRow(y, 0, 0, -1, 0, 1);
    }

    private static void shareOfEachTurn() {
        terms("for h = 1, 2, 4: of each two whose places differ by h alone in their bits");
        // Eight times 0 .. 7: the turns make 224, -32, -64, 0, -128, 0, 0, 0.
        Noted x = new Noted().numbers(0, 0, 8, 16, 24, 32, 40, 48, 56);
        int[] want = {784, 16, 64, 0, 256, 0, 0, 0};
        for (int wave = 0; wave <= 7; wave++) {
            due(x.share(0, 0, wave), want[wave]);
        }
        due(x.row(0, 4), 1120);
        due(x.peak(0, 0), 4);
    }

    /**
     * 1, 2, 4, 8, 16, 32, 64, 100 becomes, for h = 1, 3, -1, 12, -4, 48, -16, 164, -36; for h = 2, 15, -5, -9, 3, 212,
     * -52, -116, 20; for h = 4, 227, -57, -125, 23, -197, 47, 107, -17.
     */
    private static void theThreeTurnsByHand() {
        terms("three turns, each of which makes eight numbers of eight");
        Noted x = new Noted().numbers(1, 1, 2, 4, 8, 16, 32, 64, 100);
        int[] want = {805, 50, 244, 8, 606, 34, 178, 4};
        for (int wave = 0; wave <= 7; wave++) {
            due(x.share(1, 0, wave), want[wave]);
        }
        terms("(the lesser place a, the other b): a becomes a and b together, b becomes a less b (as they were)");
        // 9 and 17 together are 26, 9 less 17 is -8; were b the new a less b, it would be 9.
        Noted y = new Noted().numbers(1, 9, 17, 0, 0, 0, 0, 0, 0);
        for (int wave = 0; wave <= 7; wave++) {
            due(y.share(1, 0, wave), wave % 2 == 0 ? 10 : 1);
        }
    }

    private static void peakOfWavesOneToSeven() {
        terms("the WAVE of the greatest SHARE of WAVES 1 .. 7");
        for (int wave = 1; wave <= 7; wave++) {
            due(new Noted().waves(4, wave).peak(4, 0), wave);
        }
        due(new Noted().wave(4, 0, 100).peak(4, 0), NONE);
        // Wave 0 has 5625 here, and each other 625.
        due(new Noted().numbers(4, 100, 100, 100, 100, 100, 100, 100, -100).peak(4, 0), 1);
        Noted x = new Noted().wave(4, 0, 100);
        x.bound(0, 0);
        due(x.peak(4, 0), 1);
    }

    private static void peakOfLikeOnes() {
        terms("of like ones the least, if that is at least FLOOR");
        for (int less = 1; less <= 7; less++) {
            for (int more = less + 1; more <= 7; more++) {
                due(twoWaves(less, 20, more, 20).peak(0, 0), less);
                due(twoWaves(less, 20, more, -20).peak(0, 0), less);
                due(twoWaves(less, 20, more, 21).peak(0, 0), more);
                due(twoWaves(less, 21, more, 20).peak(0, 0), less);
            }
        }
        // Waves 1 and 2 have 0 and 2 at their places, of both of which the square / 64 is 0: they are like, and 1 is less.
        Noted x = new Noted().numbers(0, 1, 1, 0, 0, 0, 0, 0, 0);
        x.bound(0, 0);
        due(x.share(0, 0, 1), 0);
        due(x.share(0, 0, 2), 0);
        due(x.peak(0, 0), 1);
    }

    private static Noted twoWaves(int first, int loud, int second, int other) {
        Noted x = new Noted();
        for (int i = 0; i < 8; i++) {
            int a = Integer.bitCount(i & first) % 2 == 0 ? loud : -loud;
            int b = Integer.bitCount(i & second) % 2 == 0 ? other : -other;
            x.add(0, a + b);
        }
        return x;
    }

    private static void peakAtFloor() {
        terms("if that is at least FLOOR (0 .. 99999; 50 at first); NONE else.");
        Noted x = new Noted().wave(1, 3, 30);
        int[][] want = {{899, 3}, {900, 3}, {901, NONE}, {0, 3}, {1, 3}};
        for (int[] w : want) {
            x.bound(0, w[0]);
            due(x.peak(1, 0), w[1]);
            due(x.row(1, 2), w[1] == NONE ? 0 : 1);
            due(x.row(1, 5), w[1]);
        }
    }

    /** 57 times 57 is 3249, of which / 64 makes 50; 56 times 56 is 64 times 49. */
    private static void peakAtFloorAtFirst() {
        terms("FLOOR (0 .. 99999; 50 at first)");
        Noted at = new Noted().numbers(0, 57, 0, 0, 0, 0, 0, 0, 0);
        due(at.share(0, 0, 1), 50);
        due(at.peak(0, 0), 1);
        Noted below = new Noted().numbers(0, 56, 0, 0, 0, 0, 0, 0, 0);
        due(below.share(0, 0, 1), 49);
        due(below.peak(0, 0), NONE);
    }

    private static void peakAtTheBoundsOfFloor() {
        terms("FLOOR (0 .. 99999; 50 at first)");
        Noted x = new Noted().wave(0, 7, 100).wave(0, 0, 0);
        x.bound(0, 10000);
        due(x.peak(0, 0), 7);
        x.bound(0, 10001);
        due(x.peak(0, 0), NONE);
        x.bound(0, 99999);
        due(x.peak(0, 0), NONE);
        due(x.row(0, 5), NONE);
        x.bound(0, 1);
        due(x.peak(0, 1), NONE);
        x.bound(0, 0);
        due(x.peak(0, 1), 1);
        due(x.key(0, 0, 1), 64 + 56 + 1);
    }

    /** Sixteen windows of 0 alone with FLOOR 0: every peak is 1. */
    private static Noted everyPeak() {
        Noted x = new Noted().zeros(2);
        x.bound(0, 0);
        return x;
    }

    /** Peaks 5, 2, none, 2, 5, 7: five windows of six, each with a share of 400, and seven numbers more. */
    private static void whatIsToldOfARow() {
        for (int piece = 0; piece <= 4; piece++) {
            Noted x = new Noted().waves(piece, 5, 2, 0, 2, 5, 7).many(piece, 7, 100);
            promise(11, "Of a row: what = 0 numbers, 1 WINDOWS, 2 WINDOWS with a PEAK");
            due(x.row(piece, 0), 55);
            due(x.row(piece, 1), 6);
            due(x.row(piece, 2), 5);
            promise(11, "3 places of KEYS");
            // 0 1, 0 3, 1 3, 1 4, 3 4, 3 5, 4 5.
            due(x.row(piece, 3), 7);
            due(x.bound(1, 1), 3);
            due(x.row(piece, 3), 3);
            due(x.bound(1, 5), 1);
            due(x.row(piece, 3), 10);
            promise(11, "4 all SHARES of all WINDOWS and WAVES together");
            due(x.row(piece, 4), 2400);
            due(x.add(piece, 100), 56);
            due(x.row(piece, 4), 12400);
            promise(11, "5 the WAVE that is a PEAK most often, of like ones the least (NONE)");
            due(x.row(piece, 5), 2);
            x.waves(piece, 5);
            due(x.row(piece, 5), 5);
            due(x.bound(0, 401), 50);
            due(x.row(piece, 5), NONE);
        }
    }

    private static void keyOfTheReach() {
        terms("v less than w, w less than v and REACH and 1 (REACH 1 .. 5; 3 at first)");
        Noted first = everyPeak();
        due(first.key(2, 4, 7), 3 * 64 + 9);
        due(first.key(2, 4, 8), NONE);
        int[] places = {15, 29, 42, 54, 65};
        for (int reach = 1; reach <= 5; reach++) {
            Noted x = everyPeak();
            x.bound(1, reach);
            due(x.key(2, 4, 4), NONE);
            due(x.key(2, 4, 3), NONE);
            for (int far = 1; far <= 7; far++) {
                due(x.key(2, 4, 4 + far), far <= reach ? 64 * far + 9 : NONE);
                due(x.key(2, 4 + far, 4), NONE);
            }
            due(x.row(2, 3), places[reach - 1]);
            due(x.told(3), places[reach - 1]);
            due(x.told(2), reach);
            due(x.keyAt(reach - 1), 64 * reach + 9);
            due(x.keyAt(reach), NONE);
        }
    }

    private static void keyOfBothPeaks() {
        terms("that both have PEAKS p, q: 64 (w less v) and 8 p and q. It stands AT v.");
        Noted x = new Noted().waves(1, 2, 0, 5);
        due(x.key(1, 0, 1), NONE);
        due(x.key(1, 1, 2), NONE);
        due(x.key(1, 0, 2), 128 + 16 + 5);
        due(x.row(1, 3), 1);
        due(x.place(128 + 16 + 5, 0), 1000);
        Noted none = new Noted().waves(1, 0, 0, 0);
        due(none.key(1, 0, 1), NONE);
        due(none.row(1, 3), 0);
        Noted late = new Noted().waves(1, 0, 2, 0, 5);
        due(late.place(128 + 16 + 5, 0), 1001);
    }

    private static void keyLeastAndGreatest() {
        terms("64 (w less v) and 8 p and q");
        Noted x = new Noted().waves(3, 1, 1, 0, 0, 0, 0, 7, 0, 0, 0, 0, 7);
        x.bound(1, 5);
        due(x.key(3, 0, 1), 73);
        due(x.key(3, 6, 11), 383);
        due(x.keyAt(0), 73);
        due(x.places(73), 1);
        due(x.places(72), 0);
        due(x.places(383), 1);
        due(x.place(383, 0), 3006);
        // Far by five besides: waves 1 and 7 of windows 1 and 6, key 335.
        due(x.told(2), 3);
        due(x.told(3), 3);
        due(x.keyAt(1), 335);
        due(x.keyAt(2), 383);
        due(x.keyAt(3), NONE);
        x.add(0, 1);
        due(x.places(383), 1);
        due(x.told(3), 3);
    }

    private static void keyAtTheEndOfARow() {
        terms("two WINDOWS v, w of one, v less than w");
        Noted x = everyPeak();
        x.bound(1, 5);
        due(x.key(2, 10, 15), 320 + 9);
        due(x.key(2, 11, 15), 256 + 9);
        due(x.key(2, 14, 15), 73);
        due(x.key(2, 15, 15), NONE);
        due(x.key(2, 11, 16), UNKNOWN);
        due(x.key(2, 15, 16), UNKNOWN);
        due(x.places(73), 15);
        due(x.place(73, 14), 2014);
        due(x.place(73, 15), NONE);
        due(x.places(320 + 9), 11);
        due(x.place(320 + 9, 10), 2010);
        due(x.place(320 + 9, 11), NONE);
    }
}
