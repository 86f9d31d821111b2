/** "The public face" and promise 1: the values of the constants, and what a new object answers to every call. */
public final class NewObjectTest extends Sentences {
    private NewObjectTest() {
    }

    public static void main(String[] args) {
        constants();
        constantsAreFarBelowAllThatIsCounted();
        noRows();
        noNumbersToTakeOffOrChange();
        nothingToHear();
        boundsAtFirst();
        nothingToUndo();
        nothingTold();
        noWindows();
        noKeys();
        noVotes();
        noImages();
        aNewObjectIsItsOwn();
        allItsCallsAreAnswered();
        finish("new object");
    }

    private static void constants() {
        face("NONE = -1");
        holds("NONE", SoundPictures.NONE == -1);
        terms("NONE is -1.");
        due(new Noted().keyAt(0), -1);
        face("UNKNOWN = -1000000001");
        holds("UNKNOWN", SoundPictures.UNKNOWN == -1000000001);
        face("OUTSIDE = -1000000002");
        holds("OUTSIDE", SoundPictures.OUTSIDE == -1000000002);
        face("NOT = -1000000003");
        holds("NOT", SoundPictures.NOT == -1000000003);
        face("FULL = -1000000004");
        holds("FULL", SoundPictures.FULL == -1000000004);
    }

    /** The least that any call counts is a number of a row, -100; the least OFFSET told is -14. */
    private static void constantsAreFarBelowAllThatIsCounted() {
        terms("They are far below all that is counted: -1000000001 and on.");
        int[] refusals = {SoundPictures.UNKNOWN, SoundPictures.OUTSIDE, SoundPictures.NOT, SoundPictures.FULL};
        for (int i = 0; i < refusals.length; i++) {
            holds("refusal " + i, refusals[i] == -1000000001 - i);
        }
        due(new Noted().numbers(0, -100).at(0, 0), -100);
    }

    private static void noRows() {
        promise(1, "No rows.");
        Noted x = new Noted();
        for (int piece = 0; piece <= 4; piece++) {
            for (int what = 0; what <= 4; what++) {
                due(x.row(piece, what), 0);
            }
            due(x.row(piece, 5), NONE);
            due(x.at(piece, 0), OUTSIDE);
            due(x.at(piece, -1), OUTSIDE);
        }
        for (int piece = 0; piece <= 4; piece++) {
            due(new Noted().add(piece, 7), 1);
            due(new Noted().lots(piece, 128, 7), 16);
        }
    }

    private static void noNumbersToTakeOffOrChange() {
        terms("rows of at most 128 numbers (-100 .. 100; none at first)");
        for (int piece = 0; piece <= 4; piece++) {
            due(new Noted().wipe(piece), 0);
            due(new Noted().noise(piece, 1, 1), 0);
            due(new Noted().noise(piece, 100, 999999), 0);
            due(new Noted().louder(piece, 1, 9), 0);
            due(new Noted().louder(piece, 9, 1), 0);
        }
    }

    private static void nothingToHear() {
        promise(7, "NOT: the PIECE has none from there on.");
        for (int piece = 0; piece <= 3; piece++) {
            due(new Noted().hear(piece, 0, 1), NOT);
            due(new Noted().hear(piece, 0, 128), NOT);
            due(new Noted().hear(piece, 127, 128), NOT);
        }
        due(new Noted().hear(4, 0, 1), UNKNOWN);
    }

    private static void boundsAtFirst() {
        terms("FLOOR (0 .. 99999; 50 at first)");
        due(new Noted().told(0), 50);
        due(new Noted().bound(0, 0), 50);
        terms("(REACH 1 .. 5; 3 at first)");
        due(new Noted().told(1), 3);
        due(new Noted().bound(1, 1), 3);
    }

    private static void nothingToUndo() {
        promise(9, "NOT: none.");
        Noted x = new Noted();
        due(x.told(12), 0);
        due(x.undo(), NOT);
        due(x.undo(), NOT);
        due(x.told(12), 0);
    }

    private static void nothingTold() {
        promise(10, "0 FLOOR, 1 REACH, 2 unlike KEYS in THE LEDGER");
        Noted x = new Noted();
        int[] want = {50, 3, 0, 0, 0, 0, NONE, 0, 0, 100, 0, 0, 0};
        for (int what = 0; what < want.length; what++) {
            due(x.told(what), want[what]);
        }
    }

    private static void noWindows() {
        terms("UNKNOWN (a PIECE, WINDOW, KEY, IMAGE that there is not)");
        Noted x = new Noted();
        for (int piece = 0; piece <= 4; piece++) {
            due(x.share(piece, 0, 0), UNKNOWN);
            due(x.share(piece, 0, 7), UNKNOWN);
            due(x.peak(piece, 0), UNKNOWN);
            due(x.peak(piece, 15), UNKNOWN);
            due(x.key(piece, 0, 1), UNKNOWN);
            due(x.key(piece, 0, 0), UNKNOWN);
        }
    }

    private static void noKeys() {
        promise(16, "NONE: not so many.");
        Noted x = new Noted();
        due(x.keyAt(0), NONE);
        due(x.keyAt(MAX), NONE);
        due(x.keyAt(-1), OUTSIDE);
        promise(17, "How many places THE LEDGER has of a KEY (64 .. 383).");
        for (int key = 64; key <= 383; key++) {
            due(x.places(key), 0);
        }
        promise(18, "NONE: not so many.");
        due(x.place(64, 0), NONE);
        due(x.place(383, 0), NONE);
        due(x.place(73, MAX), NONE);
    }

    private static void noVotes() {
        promise(19, "VOTES of a PIECE at an OFFSET (-15 .. 15).");
        Noted x = new Noted();
        for (int piece = 0; piece <= 3; piece++) {
            for (int offset = -15; offset <= 15; offset++) {
                due(x.votes(piece, offset), 0);
            }
        }
        promise(20, "NONE: not so many.");
        for (int what = 0; what <= 2; what++) {
            due(x.rank(0, what), NONE);
            due(x.rank(MAX, what), NONE);
        }
    }

    private static void noImages() {
        promise(22, "NOT: it was not kept.");
        due(new Noted().goBack(0), NOT);
        due(new Noted().goBack(1), NOT);
        promise(21, "IMAGE i becomes what is so (nothing can be undone then): 1.");
        due(new Noted().keep(0), 1);
        due(new Noted().keep(1), 1);
    }

    /** Nothing of one object is seen by another, neither one made ahead nor one made behind. */
    private static void aNewObjectIsItsOwn() {
        promise(1, "A new object");
        Noted ahead = new Noted();
        Noted used = new Noted().waves(0, 1, 2).waves(4, 1, 2);
        used.bound(0, 7);
        used.bound(1, 5);
        used.keep(0);
        used.keep(1);
        used.add(3, 5);
        used.told(8);
        String fresh = "50 3 0 0 0 0 -1 0 0 100 0 0 0 "
            + "| 0 0 0 0 0 -1 | 0 0 0 0 0 -1 | 0 0 0 0 0 -1 | 0 0 0 0 0 -1 | 0 0 0 0 0 -1 ";
        due("the picture of one made ahead", ahead.picture(), fresh);
        due("the picture of one made behind", new Noted().picture(), fresh);
        due(ahead.undo(), NOT);
        due(ahead.goBack(0), NOT);
        due(ahead.goBack(1), NOT);
    }

    /** The last of 512 calls is answered as the first, whatever came ahead of it. */
    private static void allItsCallsAreAnswered() {
        whatItIs("An object is used for at most 512 calls after it has been made");
        Noted x = new Noted();
        due(x.lots(0, 128, 7), 16);
        due(x.hear(0, 16, 64), 64);
        for (int i = 1; i <= 254; i++) {
            x.noise(4, 100, i);
            due(x.undo(), 2);
        }
        due(x.told(7), 2);
        // Eight windows are heard, all with peaks: 7, 6 and 5 keys, far by 1, 2 and 3, each of which stands in piece 0.
        due(x.told(8), 18);
    }
}
