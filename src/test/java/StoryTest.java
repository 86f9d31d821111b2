/** "What it is", clause by clause from its first line: what the class is for, as one story. */
public final class StoryTest extends Sentences {
    private StoryTest() {
    }

    public static void main(String[] args) {
        rowsAndWindows();
        waves();
        peaks();
        keys();
        theLedger();
        whatIsHeard();
        votes();
        mostVotesWin();
        struck();
        noiseByLots();
        louderAndSofter();
        undone();
        images();
        partsOfLongPiecesAreFound();
        finish("story");
    }

    /** Piece 0 has peaks 1 to 6, piece 1 has 2, 3, 7, 7; heard are 2, 3, 4, which piece 0 has from its window 1 on. */
    private static Noted story() {
        return new Noted().waves(0, 1, 2, 3, 4, 5, 6).waves(1, 2, 3, 7, 7).waves(4, 2, 3, 4);
    }

    private static void dueBest(Noted x, int piece, int offset, int votes, int doubt) {
        due(x.told(6), piece);
        due(x.told(7), offset);
        due(x.told(8), votes);
        due(x.told(9), doubt);
    }

    private static void rowsAndWindows() {
        whatItIs("pieces are told as rows of numbers, cut into windows");
        Noted x = story();
        due(x.row(0, 0), 48);
        due(x.row(0, 1), 6);
        due(x.row(1, 0), 32);
        due(x.row(1, 1), 4);
        due(x.at(0, 8), 20);
        due(x.at(0, 10), -20);
    }

    private static void waves() {
        whatItIs("each window is turned into how much of each of eight waves is in it, "
            + "by a turn that goes with whole numbers alone");
        Noted x = story();
        for (int window = 0; window <= 5; window++) {
            for (int wave = 0; wave <= 7; wave++) {
                due(x.share(0, window, wave), wave == window + 1 ? 400 : 0);
            }
        }
    }

    private static void peaks() {
        whatItIs("from these peaks are picked");
        Noted x = story();
        for (int window = 0; window <= 5; window++) {
            due(x.peak(0, window), window + 1);
        }
    }

    private static void keys() {
        whatItIs("pairs of near peaks become keys");
        Noted x = story();
        due(x.key(0, 0, 1), 64 + 8 + 2);
        due(x.key(0, 0, 3), 192 + 8 + 4);
        due(x.key(0, 0, 4), NONE);
        due(x.row(0, 3), 5 + 4 + 3);
        due(x.row(1, 3), 3 + 2 + 1);
    }

    /** The only key of both pieces is that of peaks 2 and 3, one window apart. */
    private static void theLedger() {
        whatItIs("a ledger tells for each key in which piece it comes and when");
        Noted x = story();
        due(x.told(2), 17);
        due(x.told(3), 18);
        due(x.keyAt(0), 74);
        due(x.keyAt(1), 83);
        due(x.places(83), 2);
        due(x.place(83, 0), 1);
        due(x.place(83, 1), 1000);
        due(x.place(83, 2), NONE);
    }

    private static void whatIsHeard() {
        whatItIs("what is heard, perhaps a part of a piece, perhaps with noise, is cut likewise");
        Noted x = story();
        due(x.hear(0, 16, 25), 25);
        due(x.row(4, 1), 3);
        for (int window = 0; window <= 2; window++) {
            due(x.peak(4, window), window + 3);
            due(x.share(4, window, window + 3), 400);
        }
        dueBest(x, 0, 2, 3, 0);
    }

    private static void votes() {
        whatItIs("each key it has in common with a piece votes for a piece and for how far the one begins behind the other");
        Noted x = story();
        due(x.told(4), 3);
        due(x.told(5), 3);
        due(x.votes(0, 1), 3);
        due(x.votes(1, 0), 1);
        due(x.told(11), 4);
    }

    private static void mostVotesWin() {
        whatItIs("the most votes win, and how doubtful that is is told");
        Noted x = story();
        dueBest(x, 0, 1, 3, 33);
        whatItIs("peaks, shares, keys, ledgers, votes, ranks");
        due(x.told(10), 2);
        due(x.rank(0, 0), 0);
        due(x.rank(0, 1), 101);
        due(x.rank(0, 2), 3);
        due(x.rank(1, 0), 1);
        due(x.rank(1, 1), 100);
        due(x.rank(1, 2), 1);
        due(x.rank(2, 0), NONE);
    }

    private static void struck() {
        whatItIs("pieces struck");
        Noted x = story();
        due(x.wipe(0), 48);
        dueBest(x, 1, 0, 1, 0);
        due(x.wipe(1), 32);
        dueBest(x, NONE, 0, 0, 100);
    }

    /** Noise of at most 1 on numbers of 20 puts a share of at most 1 on any other wave. */
    private static void noiseByLots() {
        whatItIs("noise by lots");
        for (int seed = 1; seed <= 20; seed++) {
            Noted x = story();
            holds("some numbers become other ones", x.noise(4, 1, seed) > 0);
            dueBest(x, 0, 1, 3, 33);
        }
    }

    private static void louderAndSofter() {
        whatItIs("louder, softer");
        Noted x = story();
        due(x.louder(4, 9, 2), 24);
        due(x.share(4, 0, 2), 8100);
        dueBest(x, 0, 1, 3, 33);
        due(x.louder(4, 1, 9), 24);
        due(x.louder(4, 1, 9), 24);
        due(x.share(4, 0, 2), 1);
        dueBest(x, NONE, 0, 0, 100);
        due(x.bound(0, 1), 50);
        dueBest(x, 0, 1, 3, 33);
    }

    private static void undone() {
        whatItIs("what was done undone");
        Noted x = story();
        due(x.wipe(0), 48);
        due(x.louder(4, 1, 9), 24);
        dueBest(x, NONE, 0, 0, 100);
        due(x.undo(), 7);
        dueBest(x, 1, 0, 1, 0);
        due(x.undo(), 6);
        dueBest(x, 0, 1, 3, 33);
    }

    private static void images() {
        whatItIs("images");
        Noted x = story();
        due(x.keep(1), 1);
        due(x.wipe(0), 48);
        due(x.keep(0), 1);
        due(x.wipe(4), 24);
        dueBest(x, NONE, 0, 0, 100);
        due(x.goBack(0), 1);
        dueBest(x, 1, 0, 1, 0);
        due(x.goBack(1), 1);
        dueBest(x, 0, 1, 3, 33);
    }

    /** Four long pieces by lots; of each, parts that begin at a window are found in it, where they begin. */
    private static void partsOfLongPiecesAreFound() {
        whatItIs("perhaps a part of a piece");
        Noted x = new Noted();
        for (int piece = 0; piece <= 3; piece++) {
            due(x.lots(piece, 128, 1 + 1000 * piece), 16);
        }
        for (int piece = 0; piece <= 3; piece++) {
            for (int window = 0; window <= 8; window++) {
                due(x.hear(piece, 8 * window, 64), 64);
                due(x.told(6), piece);
                due(x.told(7), window);
            }
        }
    }
}
