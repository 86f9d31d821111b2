/** "Terms": the order of the refusals, and that what is refused changes nothing. */
public final class RefusalsTest extends Sentences {
    private RefusalsTest() {
    }

    public static void main(String[] args) {
        unknownAheadOfOutside();
        unknownAheadOfNot();
        unknownAheadOfFull();
        outsideAheadOfNot();
        outsideAheadOfFull();
        refusedByRows();
        refusedByHearing();
        refusedByBounds();
        refusedByFullRows();
        refusedByImages();
        refusedByNothingToUndo();
        refusedQuestions();
        refusedIsNotKeptToBeUndone();
        finish("refusals");
    }

    private static final String ORDER = "REFUSALS, of several the first in this order: UNKNOWN";

    private static void unknownAheadOfOutside() {
        terms(ORDER);
        int[] wrong = {MIN, -1, 5, MAX};
        for (int piece : wrong) {
            due(some().add(piece, 101), UNKNOWN);
            due(some().add(piece, -101), UNKNOWN);
            due(some().lots(piece, 0, 1), UNKNOWN);
            due(some().lots(piece, 129, 0), UNKNOWN);
            due(some().lots(piece, 1, 1000000), UNKNOWN);
            due(some().noise(piece, 0, 1), UNKNOWN);
            due(some().noise(piece, 101, 1), UNKNOWN);
            due(some().noise(piece, 1, 0), UNKNOWN);
            due(some().louder(piece, 0, 1), UNKNOWN);
            due(some().louder(piece, 1, 10), UNKNOWN);
            due(some().hear(piece, -1, 1), UNKNOWN);
            due(some().hear(piece, 0, 129), UNKNOWN);
            due(some().row(piece, 6), UNKNOWN);
            due(some().row(piece, -1), UNKNOWN);
            due(some().at(piece, -1), UNKNOWN);
            due(some().at(piece, 128), UNKNOWN);
            due(some().share(piece, 0, 8), UNKNOWN);
            due(some().votes(piece, 16), UNKNOWN);
            due(some().votes(piece, -16), UNKNOWN);
        }
        due(some().hear(4, 128, 0), UNKNOWN);
        due(some().votes(4, 16), UNKNOWN);
        // A window that there is not is unknown, too, and goes ahead of a wave out of its bounds.
        due(some().share(0, 2, 8), UNKNOWN);
        due(some().share(0, -1, -1), UNKNOWN);
        due(some().share(3, 0, 8), UNKNOWN);
    }

    private static void unknownAheadOfNot() {
        terms(ORDER);
        due(new Noted().hear(4, 0, 1), UNKNOWN);
        due(new Noted().hear(5, 0, 1), UNKNOWN);
        due(new Noted().hear(-1, 127, 1), UNKNOWN);
        due(new Noted().goBack(2), UNKNOWN);
        due(new Noted().goBack(-1), UNKNOWN);
    }

    private static void unknownAheadOfFull() {
        terms(ORDER);
        Noted x = new Noted();
        for (int piece = 0; piece <= 4; piece++) {
            x.lots(piece, 128, 1);
        }
        due(x.add(5, 1), UNKNOWN);
        due(x.add(-1, 1), UNKNOWN);
        due(x.add(5, 101), UNKNOWN);
    }

    private static void outsideAheadOfNot() {
        terms("OUTSIDE (another number out of its bounds), NOT (not now, as told), FULL.");
        due(new Noted().hear(0, -1, 1), OUTSIDE);
        due(new Noted().hear(0, 128, 1), OUTSIDE);
        due(new Noted().hear(0, 0, 0), OUTSIDE);
        due(new Noted().hear(0, 0, 129), OUTSIDE);
        due(new Noted().hear(0, 0, 1), NOT);
        due(new Noted().numbers(0, 1).hear(0, 1, 0), OUTSIDE);
        due(new Noted().numbers(0, 1).hear(0, 1, 129), OUTSIDE);
        due(new Noted().numbers(0, 1).hear(0, 1, 128), NOT);
        due(new Noted().numbers(0, 1).hear(0, 127, 1), NOT);
        due(new Noted().numbers(0, 1).hear(0, 128, 1), OUTSIDE);
    }

    private static void outsideAheadOfFull() {
        terms("OUTSIDE (another number out of its bounds), NOT (not now, as told), FULL.");
        for (int piece = 0; piece <= 4; piece++) {
            Noted x = new Noted();
            x.lots(piece, 128, 1);
            due(x.add(piece, 101), OUTSIDE);
            due(x.add(piece, -101), OUTSIDE);
            due(x.add(piece, 100), FULL);
            due(x.add(piece, -100), FULL);
        }
    }

    /** Rows of several lengths, both bounds moved, both images kept with other rows than now, and three calls to undo. */
    private static Noted some() {
        Noted x = new Noted().numbers(1, 9, 8, 7);
        x.lots(2, 20, 77);
        x.keep(0);
        x.lots(0, 16, 5);
        x.bound(0, 20);
        x.keep(1);
        x.bound(1, 2);
        x.hear(0, 0, 12);
        x.add(2, -100);
        return x;
    }

    /** Row 1 is full; the rest as in some(). */
    private static Noted someFull() {
        Noted x = some();
        x.lots(1, 128, 3);
        return x;
    }

    private static Noted noImages() {
        Noted x = new Noted().numbers(0, 1, 2).numbers(4, 3);
        x.bound(1, 5);
        return x;
    }

    private static Noted nothingToUndo() {
        Noted x = some();
        x.keep(0);
        return x;
    }

    private static void unchanged(Maker maker, int refusal, Call call) {
        Noted x = maker.make();
        due(call.on(x), refusal);
        String refused = Noted.latest();
        due("what is so behind " + refused, x.wholeTale(), maker.make().wholeTale());
    }

    private static final String CHANGES_NOTHING = "What is refused changes nothing.";

    private static void refusedByRows() {
        terms(CHANGES_NOTHING);
        int[] wrong = {MIN, -1, 5, MAX};
        for (int piece : wrong) {
            unchanged(RefusalsTest::some, UNKNOWN, x -> x.add(piece, 1));
            unchanged(RefusalsTest::some, UNKNOWN, x -> x.wipe(piece));
            unchanged(RefusalsTest::some, UNKNOWN, x -> x.lots(piece, 8, 1));
            unchanged(RefusalsTest::some, UNKNOWN, x -> x.noise(piece, 50, 1));
            unchanged(RefusalsTest::some, UNKNOWN, x -> x.louder(piece, 2, 1));
            unchanged(RefusalsTest::some, UNKNOWN, x -> x.hear(piece, 0, 1));
        }
        for (int piece = 0; piece <= 4; piece++) {
            int row = piece;
            unchanged(RefusalsTest::some, OUTSIDE, x -> x.add(row, 101));
            unchanged(RefusalsTest::some, OUTSIDE, x -> x.add(row, -101));
            unchanged(RefusalsTest::some, OUTSIDE, x -> x.lots(row, 0, 1));
            unchanged(RefusalsTest::some, OUTSIDE, x -> x.lots(row, 129, 1));
            unchanged(RefusalsTest::some, OUTSIDE, x -> x.lots(row, 8, 0));
            unchanged(RefusalsTest::some, OUTSIDE, x -> x.lots(row, 8, 1000000));
            unchanged(RefusalsTest::some, OUTSIDE, x -> x.noise(row, 0, 1));
            unchanged(RefusalsTest::some, OUTSIDE, x -> x.noise(row, 101, 1));
            unchanged(RefusalsTest::some, OUTSIDE, x -> x.noise(row, 50, 0));
            unchanged(RefusalsTest::some, OUTSIDE, x -> x.noise(row, 50, 1000000));
            unchanged(RefusalsTest::some, OUTSIDE, x -> x.louder(row, 0, 1));
            unchanged(RefusalsTest::some, OUTSIDE, x -> x.louder(row, 10, 1));
            unchanged(RefusalsTest::some, OUTSIDE, x -> x.louder(row, 2, 0));
            unchanged(RefusalsTest::some, OUTSIDE, x -> x.louder(row, 2, 10));
        }
    }

    private static void refusedByHearing() {
        terms(CHANGES_NOTHING);
        unchanged(RefusalsTest::some, UNKNOWN, x -> x.hear(4, 0, 1));
        unchanged(RefusalsTest::some, OUTSIDE, x -> x.hear(0, -1, 8));
        unchanged(RefusalsTest::some, OUTSIDE, x -> x.hear(0, 128, 8));
        unchanged(RefusalsTest::some, OUTSIDE, x -> x.hear(0, 0, 0));
        unchanged(RefusalsTest::some, OUTSIDE, x -> x.hear(0, 0, 129));
        unchanged(RefusalsTest::some, NOT, x -> x.hear(0, 16, 8));
        unchanged(RefusalsTest::some, NOT, x -> x.hear(0, 127, 128));
        unchanged(RefusalsTest::some, NOT, x -> x.hear(3, 0, 128));
    }

    private static void refusedByBounds() {
        terms(CHANGES_NOTHING);
        unchanged(RefusalsTest::some, OUTSIDE, x -> x.bound(0, -1));
        unchanged(RefusalsTest::some, OUTSIDE, x -> x.bound(0, 100000));
        unchanged(RefusalsTest::some, OUTSIDE, x -> x.bound(1, 0));
        unchanged(RefusalsTest::some, OUTSIDE, x -> x.bound(1, 6));
        unchanged(RefusalsTest::some, OUTSIDE, x -> x.bound(2, 3));
        unchanged(RefusalsTest::some, OUTSIDE, x -> x.bound(-1, 3));
    }

    private static void refusedByFullRows() {
        terms(CHANGES_NOTHING);
        unchanged(RefusalsTest::someFull, FULL, x -> x.add(1, 55));
        unchanged(RefusalsTest::someFull, OUTSIDE, x -> x.add(1, 101));
    }

    private static void refusedByImages() {
        terms(CHANGES_NOTHING);
        int[] wrong = {MIN, -1, 2, MAX};
        for (int image : wrong) {
            unchanged(RefusalsTest::some, UNKNOWN, x -> x.keep(image));
            unchanged(RefusalsTest::some, UNKNOWN, x -> x.goBack(image));
            unchanged(RefusalsTest::noImages, UNKNOWN, x -> x.keep(image));
            unchanged(RefusalsTest::noImages, UNKNOWN, x -> x.goBack(image));
        }
        unchanged(RefusalsTest::noImages, NOT, x -> x.goBack(0));
        unchanged(RefusalsTest::noImages, NOT, x -> x.goBack(1));
    }

    private static void refusedByNothingToUndo() {
        terms(CHANGES_NOTHING);
        unchanged(Noted::new, NOT, x -> x.undo());
        unchanged(RefusalsTest::nothingToUndo, NOT, x -> x.undo());
    }

    private static void refusedQuestions() {
        terms(CHANGES_NOTHING);
        unchanged(RefusalsTest::some, OUTSIDE, x -> x.told(13));
        unchanged(RefusalsTest::some, OUTSIDE, x -> x.row(0, 6));
        unchanged(RefusalsTest::some, OUTSIDE, x -> x.at(0, 16));
        unchanged(RefusalsTest::some, UNKNOWN, x -> x.share(0, 2, 0));
        unchanged(RefusalsTest::some, OUTSIDE, x -> x.share(0, 1, 8));
        unchanged(RefusalsTest::some, UNKNOWN, x -> x.peak(0, 2));
        unchanged(RefusalsTest::some, UNKNOWN, x -> x.key(0, 0, 2));
        unchanged(RefusalsTest::some, OUTSIDE, x -> x.keyAt(-1));
        unchanged(RefusalsTest::some, OUTSIDE, x -> x.places(384));
        unchanged(RefusalsTest::some, OUTSIDE, x -> x.place(63, 0));
        unchanged(RefusalsTest::some, UNKNOWN, x -> x.votes(4, 0));
        unchanged(RefusalsTest::some, OUTSIDE, x -> x.rank(0, 3));
    }

    /** Eight calls can be undone; refused ones between them and behind them push none of them out. */
    private static void refusedIsNotKeptToBeUndone() {
        terms("that was not refused (8 at most are kept, the oldest are lost)");
        Noted x = new Noted();
        for (int i = 1; i <= 8; i++) {
            due(x.add(0, i), i);
            due(x.add(0, 101), OUTSIDE);
            due(x.wipe(5), UNKNOWN);
            due(x.lots(0, 0, 1), OUTSIDE);
            due(x.noise(0, 0, 1), OUTSIDE);
            due(x.louder(0, 1, 0), OUTSIDE);
            due(x.hear(1, 0, 1), NOT);
            due(x.bound(1, 6), OUTSIDE);
            due(x.goBack(0), NOT);
            due(x.keep(2), UNKNOWN);
            due(x.told(12), i);
        }
        for (int i = 7; i >= 0; i--) {
            due(x.undo(), i);
            due(x.row(0, 0), i);
        }
        due(x.undo(), NOT);
    }
}
