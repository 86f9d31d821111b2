/** "Terms" 3: lots and their wrap-around, noise and loudness at the bounds of a number, what is heard of a piece. */
public final class LotsTest extends Sentences {
    private LotsTest() {
    }

    public static void main(String[] args) {
        lotsAreLeftOver();
        lotsReachBothBounds();
        lotsTakeTheRowsPlace();
        noiseIsAsStrongAsTold();
        noiseInItsBounds();
        noiseOfEachNumber();
        louderInItsBounds();
        louderOnTheWay();
        heardTakesTheRowsPlace();
        heardIsACopy();
        finish("lots");
    }

    private static int[] lots(int n, long seed, int by) {
        int[] left = new int[n];
        long lot = seed;
        for (int i = 0; i < n; i++) {
            lot = lot * 16807 % 2147483647L;
            left[i] = (int) (lot % by);
        }
        return left;
    }

    private static void dueLots(int n, int seed) {
        Noted x = new Noted();
        due(x.lots(0, n, seed), n / 8);
        int[] want = lots(n, seed, 201);
        for (int i = 0; i < n; i++) {
            due(x.at(0, i), want[i] - 100);
        }
    }

    private static void lotsAreLeftOver() {
        terms("becomes what is left of (X times 16807) by 2147483647");
        // 16807 times 127773 is 2147480811, the last that is below 2147483647; 127774 goes round to 13971.
        dueRow(lotsOf(127773), 0, -73);
        dueRow(lotsOf(127774), 0, 2);
        dueLots(128, 1);
        dueLots(128, 999999);
        dueLots(128, 127773);
        dueLots(128, 127774);
    }

    private static Noted lotsOf(int seed) {
        Noted x = new Noted();
        x.lots(0, 1, seed);
        return x;
    }

    private static void lotsReachBothBounds() {
        terms("for each X left over by 201, less 100");
        // 201 times 16807 leaves 0 by 201; 47 times 16807 is 789929 and leaves 200.
        dueRow(lotsOf(201), 0, -100);
        dueRow(lotsOf(47), 0, 100);
    }

    private static void lotsTakeTheRowsPlace() {
        terms("a row becomes n numbers");
        for (int piece = 0; piece <= 4; piece++) {
            Noted x = new Noted();
            due(x.lots(piece, 128, 5), 16);
            due(x.lots(piece, 1, 1), 0);
            dueRow(x, piece, 24);
            due(x.at(piece, 1), OUTSIDE);
            due(x.add(piece, 9), 2);
            dueRow(x, piece, 24, 9);
            due(x.lots(piece, 128, 6), 16);
            due(x.add(piece, 9), FULL);
        }
    }

    private static void noiseIsAsStrongAsTold() {
        terms("which becomes itself and (X left over by 2 s and 1) less s");
        int[][] all = {{1, 1}, {1, 999999}, {2, 77}, {50, 3}, {99, 12345}, {100, 1}, {100, 999999}};
        for (int[] one : all) {
            Noted x = new Noted().many(3, 40, 0);
            int[] left = lots(40, one[1], 2 * one[0] + 1);
            int others = 0;
            for (int v : left) {
                others += v == one[0] ? 0 : 1;
            }
            due(x.noise(3, one[0], one[1]), others);
            for (int i = 0; i < 40; i++) {
                due(x.at(3, i), left[i] - one[0]);
            }
        }
    }

    private static void dueNoise(int number, int s, int seed, int want) {
        Noted x = new Noted().numbers(4, number);
        due(x.noise(4, s, seed), number == want ? 0 : 1);
        dueRow(x, 4, want);
    }

    /** Seeds 3 and 2 make 1 less and 1 more of s = 1; 201 and 47 make 100 less and 100 more of s = 100. */
    private static void noiseInItsBounds() {
        terms("in its bounds (else the nearest)");
        dueNoise(99, 1, 2, 100);
        dueNoise(100, 1, 2, 100);
        dueNoise(100, 1, 3, 99);
        dueNoise(-99, 1, 3, -100);
        dueNoise(-100, 1, 3, -100);
        dueNoise(-100, 1, 2, -99);
        dueNoise(0, 100, 47, 100);
        dueNoise(1, 100, 47, 100);
        dueNoise(100, 100, 47, 100);
        dueNoise(-100, 100, 47, 0);
        dueNoise(0, 100, 201, -100);
        dueNoise(-1, 100, 201, -100);
        dueNoise(-100, 100, 201, -100);
        dueNoise(100, 100, 201, 0);
    }

    private static void noiseOfEachNumber() {
        terms("for each number of a row");
        Noted x = new Noted().zeros(2);
        x.add(1, 5);
        int[] left = lots(128, 8, 201);
        int others = 0;
        for (int v : left) {
            others += v == 100 ? 0 : 1;
        }
        due(x.noise(2, 100, 8), others);
        for (int i = 0; i < 128; i++) {
            due(x.at(2, i), left[i] - 100);
        }
        dueRow(x, 1, 5);
        due(x.row(2, 0), 128);
    }

    private static void dueLouder(int number, int a, int b, int want) {
        Noted x = new Noted().numbers(0, number);
        due(x.louder(0, a, b), number == want ? 0 : 1);
        dueRow(x, 0, want);
    }

    private static void louderInItsBounds() {
        terms("LOUDER by a / b: each number times a / b, in its bounds (else the nearest).");
        dueLouder(11, 9, 1, 99);
        dueLouder(12, 9, 1, 100);
        dueLouder(-11, 9, 1, -99);
        dueLouder(-12, 9, 1, -100);
        dueLouder(100, 9, 1, 100);
        dueLouder(-100, 9, 1, -100);
        dueLouder(89, 9, 8, 100);
        dueLouder(90, 9, 8, 100);
        dueLouder(88, 9, 8, 99);
        dueLouder(-90, 9, 8, -100);
        dueLouder(50, 2, 1, 100);
        dueLouder(51, 2, 1, 100);
        dueLouder(-51, 2, 1, -100);
        dueLouder(0, 9, 1, 0);
    }

    /** What is times a may be beyond the bounds, if / b brings it back. */
    private static void louderOnTheWay() {
        terms("each number times a / b");
        dueLouder(100, 8, 9, 88);
        dueLouder(-100, 8, 9, -88);
        dueLouder(100, 9, 9, 100);
        dueLouder(-100, 9, 9, -100);
        dueLouder(8, 1, 9, 0);
        dueLouder(9, 1, 9, 1);
        dueLouder(-8, 1, 9, 0);
        dueLouder(-9, 1, 9, -1);
        dueLouder(1, 9, 5, 1);
        dueLouder(-1, 9, 5, -1);
        dueLouder(7, 3, 2, 10);
    }

    private static void heardTakesTheRowsPlace() {
        terms("HEARD OF: what is HEARD becomes the numbers of a PIECE from a place on");
        for (int piece = 0; piece <= 3; piece++) {
            Noted x = new Noted().numbers(piece, 1, 2, 3, 4);
            x.lots(4, 128, 5);
            due(x.hear(piece, 1, 2), 2);
            dueRow(x, 4, 2, 3);
            due(x.at(4, 2), OUTSIDE);
            due(x.hear(piece, 3, 1), 1);
            dueRow(x, 4, 4);
            due(x.hear(piece, 4, 1), NOT);
            dueRow(x, 4, 4);
            due(x.hear(piece, 0, 4), 4);
            dueRow(x, 4, 1, 2, 3, 4);
            dueRow(x, piece, 1, 2, 3, 4);
        }
    }

    private static void heardIsACopy() {
        terms("HEARD OF: what is HEARD becomes the numbers of a PIECE");
        Noted x = new Noted().numbers(0, 1, 2, 3);
        x.hear(0, 0, 128);
        x.louder(0, 9, 1);
        dueRow(x, 4, 1, 2, 3);
        x.add(4, 7);
        dueRow(x, 0, 9, 18, 27);
        x.wipe(0);
        dueRow(x, 4, 1, 2, 3, 7);
        due(x.hear(0, 0, 1), NOT);
    }
}
