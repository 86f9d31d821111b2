/** "Terms" and promises 9, 21 and 22: what was done undone, and images. */
public final class PastTest extends Sentences {
    private PastTest() {
    }

    public static void main(String[] args) {
        eachCallIsUndone();
        whatChangedNothingIsUndoneToo();
        undoneOfEveryRow();
        eightAtMost();
        theOldestAreLost();
        undoneAndDoneAgain();
        theRingGoesRound();
        questionsAndUndoAreNotKept();
        votesAreAsAhead();
        neverKept();
        kept();
        keptAgain();
        twoImages();
        imagesKeepEveryRowAndBound();
        imagesStayAsTheyWere();
        votesAreThoseOfTheImage();
        nothingCanBeUndoneBehindKeep();
        nothingCanBeUndoneBehindGoBack();
        finish("past");
    }

    private static final String AS_AHEAD = "rows, FLOOR, REACH are as ahead of it";
    private static final String EIGHT = "8 at most are kept, the oldest are lost";

    /** Two short rows, what is heard, and bounds of their own; nothing can be undone. */
    private static Noted some() {
        Noted x = new Noted().numbers(0, 10, -20, 30).numbers(3, 5).waves(1, 3, 4).waves(4, 3, 4);
        x.bound(0, 60);
        x.bound(1, 2);
        x.keep(0);
        return x;
    }

    private static void isUndone(int answer, Call call) {
        Noted x = some();
        String ahead = x.picture();
        due(call.on(x), answer);
        String done = Noted.latest();
        due(x.told(12), 1);
        due(x.undo(), 0);
        due("what is so behind " + done + ", undone", x.picture(), ahead);
        due(x.undo(), NOT);
    }

    private static void eachCallIsUndone() {
        terms(AS_AHEAD);
        isUndone(4, x -> x.add(0, 100));
        isUndone(1, x -> x.add(2, -100));
        isUndone(17, x -> x.add(4, 1));
        isUndone(3, x -> x.wipe(0));
        isUndone(16, x -> x.wipe(4));
        isUndone(16, x -> x.lots(0, 128, 9));
        isUndone(0, x -> x.lots(1, 1, 9));
        isUndone(16, x -> x.lots(4, 128, 9));
        isUndone(1, x -> x.noise(3, 1, 2));
        isUndone(3, x -> x.louder(0, 9, 1));
        isUndone(16, x -> x.louder(4, 1, 9));
        isUndone(3, x -> x.hear(0, 0, 128));
        isUndone(1, x -> x.hear(3, 0, 1));
        isUndone(60, x -> x.bound(0, 99999));
        isUndone(60, x -> x.bound(0, 0));
        isUndone(2, x -> x.bound(1, 5));
        isUndone(2, x -> x.bound(1, 1));
    }

    private static void whatChangedNothingIsUndoneToo() {
        terms("the latest of add(), wipe(), lots(), noise(), louder(), hear(), bound() that was not refused");
        isUndone(0, x -> x.wipe(2));
        isUndone(0, x -> x.noise(2, 1, 1));
        isUndone(0, x -> x.noise(3, 1, 1));
        isUndone(0, x -> x.louder(0, 7, 7));
        isUndone(16, x -> x.hear(1, 0, 16));
        isUndone(60, x -> x.bound(0, 60));
        isUndone(2, x -> x.bound(1, 2));
    }

    /** A full row comes back whole, whichever row it is. */
    private static void undoneOfEveryRow() {
        terms(AS_AHEAD);
        for (int piece = 0; piece <= 4; piece++) {
            Noted x = new Noted();
            x.lots(piece, 128, 50 + piece);
            String ahead = x.picture();
            due(x.wipe(piece), 128);
            due(x.add(piece, 1), 1);
            due(x.undo(), 2);
            due(x.undo(), 1);
            due("the full row " + piece, x.picture(), ahead);
        }
    }

    private static void eightAtMost() {
        for (int n = 7; n <= 9; n++) {
            terms(EIGHT);
            Noted x = new Noted().many(2, n, 1);
            int kept = Math.min(n, 8);
            due(x.told(12), kept);
            for (int i = 1; i <= kept; i++) {
                due(x.undo(), kept - i);
                due(x.told(12), kept - i);
                due(x.row(2, 0), n - i);
            }
            due(x.undo(), NOT);
            due(x.row(2, 0), n - kept);
        }
    }

    /** Each kind of call can be the oldest, and is lost as the ninth comes. */
    private static void theOldestAreLost() {
        terms(EIGHT);
        Noted x = new Noted();
        x.bound(0, 7);
        x.bound(1, 5);
        x.lots(0, 9, 1);
        for (int i = 0; i < 7; i++) {
            x.add(3, i);
        }
        due(x.told(12), 8);
        for (int i = 7; i >= 0; i--) {
            due(x.undo(), i);
        }
        due(x.undo(), NOT);
        due(x.row(0, 0), 0);
        due(x.row(3, 0), 0);
        due(x.told(0), 7);
        due(x.told(1), 5);
    }

    private static void undoneAndDoneAgain() {
        terms(EIGHT);
        Noted x = new Noted().many(0, 8, 1);
        due(x.undo(), 7);
        due(x.undo(), 6);
        due(x.add(0, 50), 7);
        due(x.told(12), 7);
        due(x.add(0, 51), 8);
        due(x.told(12), 8);
        due(x.add(0, 52), 9);
        due(x.told(12), 8);
        dueRow(x, 0, 1, 1, 1, 1, 1, 1, 50, 51, 52);
        for (int i = 7; i >= 0; i--) {
            due(x.undo(), i);
            due(x.row(0, 0), i + 1);
        }
        due(x.undo(), NOT);
        dueRow(x, 0, 1);
    }

    private static void theRingGoesRound() {
        terms(EIGHT);
        Noted x = new Noted();
        int size = 0;
        for (int round = 1; round <= 5; round++) {
            for (int i = 0; i < 11; i++) {
                size++;
                due(x.add(1, size), size);
            }
            for (int i = 7; i >= 0; i--) {
                size--;
                due(x.undo(), i);
                due(x.row(1, 0), size);
                due(x.at(1, size - 1), size);
            }
            due(x.undo(), NOT);
        }
        due(x.row(1, 0), 15);
    }

    private static void questionsAndUndoAreNotKept() {
        promise(9, "The latest is undone: how many more can be.");
        Noted x = new Noted().waves(0, 1, 2, 3).waves(4, 1, 2);
        x.keep(0);
        x.add(0, 1);
        x.add(0, 2);
        x.picture();
        x.share(0, 0, 0);
        x.peak(0, 0);
        x.key(0, 0, 1);
        x.keyAt(0);
        x.places(74);
        x.place(74, 0);
        x.votes(0, 0);
        x.rank(0, 0);
        due(x.told(12), 2);
        due(x.undo(), 1);
        due(x.told(12), 1);
        due(x.undo(), 0);
        due(x.row(0, 0), 24);
    }

    /** Peaks, ledger and votes follow the rows back, even if they were asked for in between. */
    private static void votesAreAsAhead() {
        terms(AS_AHEAD);
        Noted x = new Noted().waves(0, 1, 2).waves(4, 1, 2);
        due(x.told(6), 0);
        x.wipe(0);
        due(x.told(6), NONE);
        due(x.keyAt(0), NONE);
        due(x.undo(), 7);
        due(x.told(6), 0);
        due(x.keyAt(0), 74);
        x.bound(0, 401);
        due(x.peak(0, 0), NONE);
        due(x.undo(), 7);
        due(x.peak(0, 0), 1);
        due(x.votes(0, 0), 1);
    }

    private static void neverKept() {
        promise(22, "NOT: it was not kept.");
        Noted x = new Noted().numbers(0, 1);
        due(x.goBack(0), NOT);
        due(x.goBack(1), NOT);
        due(x.told(12), 1);
        dueRow(x, 0, 1);
        due(x.keep(1), 1);
        due(x.goBack(0), NOT);
        due(x.goBack(1), 1);
        Noted y = new Noted();
        due(y.keep(0), 1);
        due(y.goBack(1), NOT);
        due(y.goBack(0), 1);
    }

    private static void kept() {
        promise(21, "IMAGE i becomes what is so");
        for (int image = 0; image <= 1; image++) {
            Noted empty = new Noted();
            due(empty.keep(image), 1);
            empty.lots(2, 128, 1);
            empty.bound(0, 1);
            due(empty.goBack(image), 1);
            due("an image of a new object", empty.picture(), new Noted().picture());
            Noted x = some();
            String ahead = x.picture();
            due(x.keep(image), 1);
            due("what is so behind keep", x.picture(), ahead);
            x.wipe(1);
            x.lots(4, 9, 9);
            x.bound(1, 5);
            due(x.goBack(image), 1);
            due("what is so behind goBack", x.picture(), ahead);
        }
    }

    private static void keptAgain() {
        promise(21, "IMAGE i becomes what is so");
        for (int image = 0; image <= 1; image++) {
            Noted x = new Noted().numbers(0, 1, 2, 3).numbers(1, 4);
            due(x.keep(image), 1);
            x.wipe(0);
            x.add(0, 9);
            x.wipe(1);
            x.bound(0, 8);
            due(x.keep(image), 1);
            x.lots(0, 128, 1);
            x.bound(0, 9);
            due(x.goBack(image), 1);
            dueRow(x, 0, 9);
            dueRow(x, 1);
            due(x.told(0), 8);
        }
    }

    private static void twoImages() {
        terms("IMAGES 0, 1 keep rows, FLOOR, REACH.");
        Noted x = new Noted().numbers(0, 1);
        x.keep(0);
        x.add(0, 2);
        x.keep(1);
        x.add(0, 3);
        due(x.goBack(0), 1);
        dueRow(x, 0, 1);
        due(x.goBack(1), 1);
        dueRow(x, 0, 1, 2);
        due(x.keep(0), 1);
        x.wipe(0);
        due(x.goBack(0), 1);
        dueRow(x, 0, 1, 2);
    }

    private static void imagesKeepEveryRowAndBound() {
        terms("IMAGES 0, 1 keep rows, FLOOR, REACH.");
        Noted x = new Noted();
        for (int piece = 0; piece <= 4; piece++) {
            x.lots(piece, 60 + piece, 1 + piece);
        }
        x.bound(0, 99999);
        x.bound(1, 5);
        x.keep(1);
        for (int piece = 0; piece <= 4; piece++) {
            x.louder(piece, 9, 1);
            x.add(piece, 100);
        }
        x.bound(0, 0);
        x.bound(1, 1);
        due(x.goBack(1), 1);
        Noted twin = new Noted();
        for (int piece = 0; piece <= 4; piece++) {
            twin.lots(piece, 60 + piece, 1 + piece);
        }
        twin.bound(0, 99999);
        twin.bound(1, 5);
        twin.keep(0);
        due("what is so", x.picture(), twin.picture());
    }

    private static void imagesStayAsTheyWere() {
        promise(22, "What is so becomes IMAGE i");
        Noted x = new Noted().numbers(0, 1, 2).numbers(4, 3);
        x.keep(0);
        for (int i = 0; i < 3; i++) {
            x.louder(0, 9, 1);
            x.add(4, 4);
            x.undo();
            x.bound(1, 1 + i);
            due(x.goBack(0), 1);
            dueRow(x, 0, 1, 2);
            dueRow(x, 4, 3);
            due(x.told(1), 3);
        }
        x.add(0, 7);
        due(x.undo(), 0);
        due(x.goBack(0), 1);
        dueRow(x, 0, 1, 2);
    }

    /** Peaks, ledger and votes are those of the image, even if they were asked for just ahead of goBack. */
    private static void votesAreThoseOfTheImage() {
        promise(22, "What is so becomes IMAGE i");
        Noted x = new Noted().waves(0, 1, 2).waves(4, 1, 2);
        x.keep(1);
        x.wipe(0);
        due(x.told(6), NONE);
        due(x.keyAt(0), NONE);
        due(x.goBack(1), 1);
        due(x.told(6), 0);
        due(x.keyAt(0), 74);
        due(x.votes(0, 0), 1);
        x.bound(0, 401);
        due(x.peak(0, 0), NONE);
        due(x.goBack(1), 1);
        due(x.peak(0, 0), 1);
    }

    private static void nothingCanBeUndoneBehindKeep() {
        promise(21, "(nothing can be undone then)");
        for (int n = 1; n <= 9; n += 4) {
            for (int image = 0; image <= 1; image++) {
                Noted x = new Noted().many(0, n, 1);
                due(x.keep(image), 1);
                due(x.told(12), 0);
                due(x.undo(), NOT);
                due(x.row(0, 0), n);
                x.add(0, 2);
                due(x.told(12), 1);
                due(x.undo(), 0);
                due(x.undo(), NOT);
                due(x.row(0, 0), n);
            }
        }
    }

    private static void nothingCanBeUndoneBehindGoBack() {
        promise(22, "(nothing can be undone then)");
        for (int n = 1; n <= 9; n += 4) {
            for (int image = 0; image <= 1; image++) {
                Noted x = new Noted().numbers(0, 5);
                x.keep(image);
                x.many(0, n, 1);
                due(x.told(12), Math.min(n, 8));
                due(x.goBack(image), 1);
                due(x.told(12), 0);
                due(x.undo(), NOT);
                dueRow(x, 0, 5);
                x.wipe(0);
                due(x.undo(), 0);
                dueRow(x, 0, 5);
                due(x.undo(), NOT);
            }
        }
    }
}
