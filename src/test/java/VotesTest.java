/** "Terms" 2: the ledger, votes, ranks and doubt, where there are none, one, as many as can be, and among like ones. */
public final class VotesTest extends Sentences {
    private VotesTest() {
    }

    public static void main(String[] args) {
        ledgerOfPiecesAlone();
        ledgerByPieceThenAt();
        ledgerIsRising();
        ledgerOfOneWindow();
        heardKeysThatTheLedgerHas();
        votesOfEachPlace();
        votesAtTheFarthestOffsets();
        noVotes();
        oneVote();
        likeOnesByPiece();
        likeOnesByOffset();
        mostVotesFirst();
        asManyAsCanBe();
        doubtWithoutVotes();
        doubtOfOnePieceAlone();
        doubtIsCut();
        doubtIsOfAnotherPiece();
        doubtOfLikeOnes();
        finish("votes");
    }

    private static final int KEY_12 = 64 + 8 + 2, KEY_23 = 64 + 16 + 3, KEY_31 = 64 + 24 + 1;

    /** REACH 1, so that n windows with peaks have n less 1 keys. */
    private static Noted near() {
        Noted x = new Noted();
        x.bound(1, 1);
        return x;
    }

    private static void dueRanks(Noted x, int[][] want) {
        due(x.told(10), want.length);
        for (int k = 0; k < want.length; k++) {
            due(x.rank(k, 0), want[k][0]);
            due(x.rank(k, 1), want[k][1] + 100);
            due(x.rank(k, 2), want[k][2]);
            due(x.votes(want[k][0], want[k][1]), want[k][2]);
        }
        for (int what = 0; what <= 2; what++) {
            due(x.rank(want.length, what), NONE);
        }
    }

    private static void ledgerOfPiecesAlone() {
        terms("for each KEY that any of PIECES 0 .. 3 has: where (PIECE, AT)");
        for (int piece = 0; piece <= 3; piece++) {
            Noted x = near().waves(piece, 1, 2);
            due(x.told(2), 1);
            due(x.told(3), 1);
            due(x.keyAt(0), KEY_12);
            due(x.place(KEY_12, 0), 1000 * piece);
        }
        Noted heard = near().waves(4, 1, 2);
        due(heard.told(2), 0);
        due(heard.told(3), 0);
        due(heard.told(4), 1);
        due(heard.told(5), 0);
        due(heard.keyAt(0), NONE);
        due(heard.places(KEY_12), 0);
        due(heard.place(KEY_12, 0), NONE);
    }

    private static void ledgerByPieceThenAt() {
        terms("by PIECE, then AT");
        Noted x = near().waves(3, 1, 2).waves(1, 3, 1, 2, 1, 2).waves(0, 0, 0, 0, 1, 2);
        int[] want = {3, 1001, 1003, 3000, NONE};
        due(x.places(KEY_12), 4);
        for (int i = 0; i < want.length; i++) {
            due(x.place(KEY_12, i), want[i]);
        }
    }

    private static void ledgerIsRising() {
        terms("It is rising by KEYS.");
        Noted x = near().waves(0, 3, 1).waves(2, 2, 3).waves(3, 1, 2);
        int[] want = {KEY_12, KEY_23, KEY_31, NONE};
        due(x.told(2), 3);
        for (int k = 0; k < want.length; k++) {
            due(x.keyAt(k), want[k]);
        }
        Noted like = near().waves(0, 1, 1, 1, 1);
        due(like.told(2), 1);
        due(like.told(3), 3);
        due(like.keyAt(0), 73);
        due(like.keyAt(1), NONE);
    }

    private static void ledgerOfOneWindow() {
        terms("two WINDOWS v, w of one");
        Noted x = near().waves(0, 1).waves(1, 2);
        due(x.told(3), 0);
        x.waves(4, 1, 2);
        due(x.told(4), 1);
        due(x.told(5), 0);
        due(x.told(6), NONE);
    }

    /** A key that is heard counts once for each place where it is heard, however often the ledger has it. */
    private static void heardKeysThatTheLedgerHas() {
        promise(10, "4 KEYS that are HEARD (places), 5 of these those that THE LEDGER has");
        int[][] want = {{0, 0}, {1, 1}, {2, 1}, {3, 2}};
        int[][] heard = {{1}, {1, 2}, {1, 2, 4}, {1, 2, 1, 2}};
        for (int i = 0; i < want.length; i++) {
            Noted once = near().waves(2, 1, 2).waves(4, heard[i]);
            due(once.told(4), want[i][0]);
            due(once.told(5), want[i][1]);
            Noted twice = near().waves(2, 1, 2).waves(3, 1, 2).waves(4, heard[i]);
            due(twice.told(4), want[i][0]);
            due(twice.told(5), want[i][1]);
        }
    }

    private static void votesOfEachPlace() {
        terms("for each KEY AT u that is HEARD, and each place of it in THE LEDGER (PIECE p, AT v): one for p, v less u");
        Noted x = near().waves(1, 1, 1, 1).waves(4, 1, 1, 1);
        // Key 73 is heard at 0 and 1 and stands at 0 and 1: four votes.
        due(x.told(4), 2);
        due(x.told(5), 2);
        due(x.told(11), 4);
        dueRanks(x, new int[][] {{1, 0, 2}, {1, -1, 1}, {1, 1, 1}});
        Noted other = near().waves(1, 1, 2).waves(4, 2, 1);
        due(other.told(4), 1);
        due(other.told(5), 0);
        due(other.told(11), 0);
    }

    /** A key stands AT 14 at most, so offsets go from -14 to 14; -15 and 15 may be asked for, and have none. */
    private static void votesAtTheFarthestOffsets() {
        terms("the OFFSET, may be below 0");
        Noted late = near().many(0, 112, 0).waves(0, 5, 6).waves(4, 5, 6);
        due(late.told(6), 0);
        due(late.told(7), 14);
        due(late.votes(0, 14), 1);
        due(late.votes(0, 15), 0);
        due(late.votes(0, -14), 0);
        due(late.rank(0, 1), 114);
        Noted early = near().many(4, 112, 0).waves(4, 5, 6).waves(3, 5, 6);
        due(early.told(6), 3);
        due(early.told(7), -14);
        due(early.votes(3, -14), 1);
        due(early.votes(3, -15), 0);
        due(early.votes(3, 14), 0);
        due(early.rank(0, 1), 86);
    }

    private static void dueNoVotes(Noted x) {
        int[] want = {NONE, 0, 0, 100, 0, 0};
        for (int i = 0; i < want.length; i++) {
            due(x.told(6 + i), want[i]);
        }
        for (int what = 0; what <= 2; what++) {
            due(x.rank(0, what), NONE);
        }
    }

    private static void noVotes() {
        promise(10, "6 the PIECE VOTED (NONE), 7 its OFFSET (0 without), 8 its VOTES, 9 DOUBT");
        dueNoVotes(new Noted());
        dueNoVotes(near().waves(0, 1, 2));
        dueNoVotes(near().waves(4, 1, 2));
        dueNoVotes(near().waves(0, 1, 2).waves(4, 2, 1));
        dueNoVotes(near().waves(0, 1, 2).waves(4, 1));
        Noted struck = near().waves(2, 3, 1, 2).waves(4, 1, 2);
        due(struck.told(7), 1);
        struck.wipe(2);
        dueNoVotes(struck);
        struck.undo();
        due(struck.told(6), 2);
        struck.wipe(4);
        dueNoVotes(struck);
    }

    private static void oneVote() {
        promise(10, "10 RANKS (how many), 11 VOTES of all");
        for (int piece = 0; piece <= 3; piece++) {
            Noted x = near().waves(piece, 1, 2).waves(4, 0, 1, 2);
            due(x.told(6), piece);
            due(x.told(7), -1);
            due(x.told(8), 1);
            due(x.told(10), 1);
            due(x.told(11), 1);
            dueRanks(x, new int[][] {{piece, -1, 1}});
        }
    }

    private static void likeOnesByPiece() {
        terms("of like ones the lesser PIECE, then the lesser OFFSET");
        Noted x = near().waves(3, 1, 2).waves(2, 0, 1, 2).waves(0, 0, 0, 1, 2).waves(4, 0, 1, 2);
        due(x.told(6), 0);
        due(x.told(7), 1);
        dueRanks(x, new int[][] {{0, 1, 1}, {2, 0, 1}, {3, -1, 1}});
        x.wipe(0);
        due(x.told(6), 2);
        x.wipe(2);
        due(x.told(6), 3);
        due(x.told(7), -1);
    }

    private static void likeOnesByOffset() {
        terms("then the lesser OFFSET; NONE: no VOTES.");
        Noted x = near().waves(1, 1, 2, 0, 1, 2, 0, 1, 2).waves(4, 0, 0, 0, 1, 2);
        due(x.told(6), 1);
        due(x.told(7), -3);
        dueRanks(x, new int[][] {{1, -3, 1}, {1, 0, 1}, {1, 3, 1}});
    }

    private static void mostVotesFirst() {
        terms("VOTED: of all (PIECE, OFFSET) that with most VOTES");
        // Piece 3 has all three keys in a row, piece 0 two, and piece 0 has the first once more further on.
        Noted x = near().waves(3, 1, 2, 3, 1).waves(0, 1, 2, 3, 0, 1, 2).waves(4, 1, 2, 3, 1);
        due(x.told(6), 3);
        due(x.told(8), 3);
        due(x.told(11), 6);
        terms("RANKS: all (PIECE, OFFSET) with VOTES so: most VOTES first, and so on.");
        dueRanks(x, new int[][] {{3, 0, 3}, {0, 0, 2}, {0, 4, 1}});
    }

    /** Every row is full, every peak is 1, and REACH 5: 65 keys each, and votes at 29 offsets of each piece. */
    private static void asManyAsCanBe() {
        promise(10, "2 unlike KEYS in THE LEDGER, 3 its places, 4 KEYS that are HEARD (places)");
        Noted x = new Noted();
        x.bound(0, 0);
        x.bound(1, 5);
        for (int piece = 0; piece <= 4; piece++) {
            x.zeros(piece);
        }
        int all = 4 * (15 * 15 + 14 * 14 + 13 * 13 + 12 * 12 + 11 * 11);
        int[] want = {0, 5, 5, 260, 65, 65, 0, 0, 65, 100, 116, all, 8};
        for (int what = 0; what < want.length; what++) {
            due(x.told(what), want[what]);
        }
        due(x.places(73), 60);
        due(x.place(73, 59), 3014);
        due(x.place(73, 60), NONE);
        int sum = 0;
        for (int piece = 0; piece <= 3; piece++) {
            for (int offset = -15; offset <= 15; offset++) {
                sum += x.votes(piece, offset);
            }
        }
        due(sum, all);
        int[][] first = {{0, 0}, {1, 0}, {2, 0}, {3, 0}, {0, -1}, {0, 1}, {1, -1}, {1, 1}};
        for (int k = 0; k < first.length; k++) {
            due(x.rank(k, 0), first[k][0]);
            due(x.rank(k, 1), first[k][1] + 100);
        }
        due(x.rank(115, 0), 3);
        due(x.rank(115, 1), 114);
        due(x.rank(115, 2), 1);
        due(x.rank(116, 0), NONE);
    }

    private static final String DOUBT = "DOUBT: VOTES of the best of another PIECE times 100 / VOTES of VOTED";

    private static void doubtWithoutVotes() {
        terms("(100 if there are no VOTES)");
        due(new Noted().told(9), 100);
        due(near().waves(0, 1, 2).told(9), 100);
        due(near().waves(4, 1, 2).told(9), 100);
    }

    private static void doubtOfOnePieceAlone() {
        terms(DOUBT);
        due(near().waves(0, 1, 2).waves(4, 1, 2).told(9), 0);
        due(near().waves(3, 1, 2, 0, 1, 2).waves(4, 1, 2).told(9), 0);
        due(near().waves(3, 1, 2).waves(0, 2, 1).waves(4, 1, 2).told(9), 0);
    }

    private static void doubtIsCut() {
        terms(DOUBT);
        due(near().waves(0, 1, 2, 3, 1).waves(2, 1, 2).waves(4, 1, 2, 3, 1).told(9), 33);
        due(near().waves(0, 1, 2, 3, 1).waves(2, 1, 2, 3).waves(4, 1, 2, 3, 1).told(9), 66);
        due(near().waves(0, 1, 2, 3).waves(2, 1, 2).waves(4, 1, 2, 3).told(9), 50);
    }

    /** Second in rank is the piece itself, further on: the doubt is of the best of the others. */
    private static void doubtIsOfAnotherPiece() {
        terms("VOTES of the best of another PIECE");
        Noted x = near().waves(1, 1, 2, 3, 1, 2, 4, 1, 2, 3).waves(3, 3, 1, 2).waves(0, 3, 1).waves(4, 1, 2, 3, 1, 2);
        due(x.told(6), 1);
        due(x.told(7), 0);
        due(x.told(8), 4);
        due(x.rank(1, 0), 1);
        due(x.rank(1, 2), 2);
        // Piece 3 has 31 and 12 at 0 and 1, heard at 2 and 3: two votes at -2; piece 0 has one.
        due(x.votes(3, -2), 2);
        due(x.votes(0, -2), 1);
        due(x.told(9), 50);
        x.wipe(3);
        due(x.told(9), 25);
        x.wipe(0);
        due(x.told(9), 0);
    }

    private static void doubtOfLikeOnes() {
        terms(DOUBT);
        due(near().waves(1, 1, 2).waves(3, 0, 0, 1, 2).waves(4, 1, 2).told(9), 100);
        due(near().waves(0, 1, 2, 3).waves(3, 1, 2, 3).waves(4, 1, 2, 3).told(9), 100);
    }
}
