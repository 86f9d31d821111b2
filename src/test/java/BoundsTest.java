/**
 * Promises 2 to 22, the numbers that each call is given: for each bound the number just within and the number just
 * without, at both ends, and the refusal that is due.
 */
public final class BoundsTest extends Sentences {
    private BoundsTest() {
    }

    public static void main(String[] args) {
        add();
        wipe();
        lots();
        noise();
        louder();
        hear();
        hearWhatThereIs();
        bound();
        undo();
        told();
        row();
        at();
        share();
        peak();
        key();
        keyAt();
        places();
        place();
        votes();
        rank();
        keep();
        goBack();
        everyPromiseFrom(2, 22);
        finish("bounds");
    }

    /** Both ends of a bound: the refusal just without, and far without; whether what is within is answered stands beside. */
    private static void without(Maker maker, Ends call, int least, int greatest, int refusal) {
        due(call.on(maker.make(), least - 1), refusal);
        due(call.on(maker.make(), greatest + 1), refusal);
        due(call.on(maker.make(), MIN), refusal);
        due(call.on(maker.make(), MAX), refusal);
    }

    /** A call of which one number is left open. */
    private interface Ends {
        int on(Noted x, int v);
    }

    /** Every row has 16 numbers and so two windows; pieces 0 .. 3 and what is heard are all waves 1 and 2. */
    private static Noted five() {
        Noted x = new Noted();
        for (int piece = 0; piece <= 4; piece++) {
            x.waves(piece, 1, 2);
        }
        return x;
    }

    private static void add() {
        promise(2, "A number comes behind a row (4: what is HEARD): how many it has.");
        due(new Noted().add(0, 1), 1);
        due(new Noted().add(4, 1), 1);
        due(five().add(0, 1), 17);
        due(five().add(4, 1), 17);
        promise(2, "UNKNOWN, OUTSIDE, FULL (128).");
        without(Noted::new, (x, v) -> x.add(v, 1), 0, 4, UNKNOWN);
        terms("rows of at most 128 numbers (-100 .. 100; none at first)");
        dueRow(new Noted().numbers(0, -100, 100, 0), 0, -100, 100, 0);
        dueRow(new Noted().numbers(4, 100, -100), 4, 100, -100);
        without(Noted::new, (x, v) -> x.add(0, v), -100, 100, OUTSIDE);
        without(Noted::new, (x, v) -> x.add(4, v), -100, 100, OUTSIDE);
        promise(2, "FULL (128)");
        for (int piece = 0; piece <= 4; piece++) {
            Noted x = new Noted();
            x.lots(piece, 127, 1);
            due(x.add(piece, 5), 128);
            due(x.add(piece, 6), FULL);
            due(x.at(piece, 127), 5);
            due(x.at(piece, 128), OUTSIDE);
            due(x.row(piece, 0), 128);
            due(x.add((piece + 1) % 5, 6), 1);
        }
    }

    private static void wipe() {
        promise(3, "A row has no numbers: how many it had.");
        due(new Noted().wipe(0), 0);
        due(new Noted().numbers(0, 1).wipe(0), 1);
        Noted x = new Noted();
        x.lots(4, 128, 1);
        due(x.wipe(4), 128);
        due(x.row(4, 0), 0);
        due(x.at(4, 0), OUTSIDE);
        due(x.wipe(4), 0);
        due(x.add(4, 9), 1);
        promise(3, "UNKNOWN.");
        due(five().wipe(0), 16);
        due(five().wipe(4), 16);
        without(BoundsTest::five, (y, v) -> y.wipe(v), 0, 4, UNKNOWN);
    }

    private static void lots() {
        promise(4, "UNKNOWN, OUTSIDE.");
        due(new Noted().lots(0, 8, 1), 1);
        due(new Noted().lots(4, 8, 1), 1);
        without(Noted::new, (x, v) -> x.lots(v, 8, 1), 0, 4, UNKNOWN);
        promise(4, "n numbers (1 .. 128)");
        Noted one = five();
        due(one.lots(0, 1, 1), 0);
        dueRow(one, 0, 24);
        Noted all = five();
        due(all.lots(0, 128, 1), 16);
        due(all.row(0, 0), 128);
        due(all.at(0, 127), lastOfLots(128, 1));
        without(BoundsTest::five, (x, v) -> x.lots(0, v, 1), 1, 128, OUTSIDE);
        promise(4, "a SEED (1 .. 999999)");
        Noted least = new Noted();
        due(least.lots(0, 2, 1), 0);
        dueRow(least, 0, 24, 0);
        Noted greatest = new Noted();
        due(greatest.lots(0, 2, 999999), 0);
        dueRow(greatest, 0, -80, 42);
        without(BoundsTest::five, (x, v) -> x.lots(0, 8, v), 1, 999999, OUTSIDE);
        promise(4, "how many WINDOWS");
        int[][] windows = {{7, 0}, {8, 1}, {15, 1}, {16, 2}, {127, 15}, {128, 16}};
        for (int[] w : windows) {
            due(five().lots(2, w[0], 5), w[1]);
        }
    }

    private static int lastOfLots(int n, long seed) {
        long lot = seed;
        for (int i = 0; i < n; i++) {
            lot = lot * 16807 % 2147483647L;
        }
        return (int) (lot % 201) - 100;
    }

    private static void noise() {
        promise(5, "UNKNOWN, OUTSIDE.");
        due(new Noted().numbers(0, 0).noise(0, 1, 2), 1);
        due(new Noted().numbers(4, 0).noise(4, 1, 2), 1);
        without(BoundsTest::five, (x, v) -> x.noise(v, 1, 1), 0, 4, UNKNOWN);
        promise(5, "NOISE (s 1 .. 100)");
        // Seed 2 makes 33614, which leaves 2 by 3 (1 more) and 47 by 201 (53 less).
        Noted weak = new Noted().numbers(0, 7);
        due(weak.noise(0, 1, 2), 1);
        dueRow(weak, 0, 8);
        Noted strong = new Noted().numbers(0, 7);
        due(strong.noise(0, 100, 2), 1);
        dueRow(strong, 0, -46);
        without(BoundsTest::five, (x, v) -> x.noise(0, v, 1), 1, 100, OUTSIDE);
        terms("NOISE BY LOTS of a SEED, s strong: X (the SEED at first)");
        Noted least = new Noted().numbers(0, 0, 0);
        due(least.noise(0, 100, 1), 1);
        dueRow(least, 0, 24, 0);
        Noted greatest = new Noted().numbers(0, 0, 0);
        due(greatest.noise(0, 100, 999999), 2);
        dueRow(greatest, 0, -80, 42);
        without(BoundsTest::five, (x, v) -> x.noise(0, 1, v), 1, 999999, OUTSIDE);
        promise(5, "how many numbers became other ones");
        due(new Noted().noise(3, 100, 1), 0);
        // Seed 1 leaves 1 by 3 in its first two lots: nothing more, nothing less; 2 in its third and fourth.
        due(new Noted().numbers(0, 4, 4).noise(0, 1, 1), 0);
        due(new Noted().numbers(0, 4, 4, 4).noise(0, 1, 1), 1);
        due(new Noted().numbers(0, 4, 4, 100, 99).noise(0, 1, 1), 1);
    }

    private static void louder() {
        promise(6, "UNKNOWN, OUTSIDE.");
        due(five().louder(0, 2, 1), 16);
        due(five().louder(4, 2, 1), 16);
        without(BoundsTest::five, (x, v) -> x.louder(v, 2, 1), 0, 4, UNKNOWN);
        promise(6, "LOUDER by a / b (1 .. 9 each)");
        Noted most = new Noted().numbers(0, 11, -11);
        due(most.louder(0, 9, 1), 2);
        dueRow(most, 0, 99, -99);
        Noted least = new Noted().numbers(0, 100, -100);
        due(least.louder(0, 1, 9), 2);
        dueRow(least, 0, 11, -11);
        due(five().louder(0, 1, 1), 0);
        due(five().louder(0, 9, 9), 0);
        without(BoundsTest::five, (x, v) -> x.louder(0, v, 1), 1, 9, OUTSIDE);
        without(BoundsTest::five, (x, v) -> x.louder(0, 1, v), 1, 9, OUTSIDE);
        promise(6, "how many numbers became other ones");
        due(new Noted().louder(1, 9, 1), 0);
        due(new Noted().numbers(1, 0, 100, -100).louder(1, 9, 1), 0);
        due(new Noted().numbers(1, 0, 99, -99, 1).louder(1, 9, 8), 2);
    }

    private static void hear() {
        promise(7, "HEARD OF a PIECE (0 .. 3)");
        due(five().hear(0, 0, 9), 9);
        due(five().hear(3, 0, 9), 9);
        without(BoundsTest::five, (x, v) -> x.hear(v, 0, 9), 0, 3, UNKNOWN);
        promise(7, "from a place (0 .. 127) on");
        Noted x = new Noted();
        x.lots(1, 128, 1);
        due(x.hear(1, 0, 1), 1);
        dueRow(x, 4, 24);
        due(x.hear(1, 127, 1), 1);
        dueRow(x, 4, lastOfLots(128, 1));
        without(BoundsTest::oneFull, (y, v) -> y.hear(1, v, 1), 0, 127, OUTSIDE);
        promise(7, "n numbers (1 .. 128): how many are HEARD.");
        due(oneFull().hear(1, 0, 1), 1);
        due(oneFull().hear(1, 0, 128), 128);
        without(BoundsTest::oneFull, (y, v) -> y.hear(1, 0, v), 1, 128, OUTSIDE);
    }

    private static Noted oneFull() {
        Noted x = new Noted();
        x.lots(1, 128, 1);
        return x;
    }

    private static void hearWhatThereIs() {
        promise(7, "UNKNOWN, OUTSIDE, NOT: the PIECE has none from there on.");
        due(five().hear(4, 128, 1), UNKNOWN);
        due(five().hear(2, 128, 1), OUTSIDE);
        due(five().hear(2, 15, 1), 1);
        due(five().hear(2, 16, 1), NOT);
        due(five().hear(2, 127, 128), NOT);
        due(new Noted().numbers(2, 5).hear(2, 0, 128), 1);
        due(new Noted().numbers(2, 5).hear(2, 1, 1), NOT);
        due(new Noted().waves(4, 1).hear(2, 0, 1), NOT);
        terms("so many as told (as many as there are)");
        due(five().hear(2, 4, 11), 11);
        due(five().hear(2, 4, 12), 12);
        due(five().hear(2, 4, 13), 12);
        due(five().hear(2, 4, 128), 12);
        due(oneFull().hear(1, 127, 128), 1);
        due(oneFull().hear(1, 1, 127), 127);
        due(oneFull().hear(1, 1, 128), 127);
        Noted x = new Noted().numbers(0, 1, 2, 3, 4).numbers(4, 9, 9, 9, 9, 9);
        due(x.hear(0, 2, 3), 2);
        dueRow(x, 4, 3, 4);
        due(x.at(4, 2), OUTSIDE);
        dueRow(x, 0, 1, 2, 3, 4);
    }

    private static void bound() {
        promise(8, "what = 0 FLOOR, 1 REACH becomes v: what it was.");
        Noted x = new Noted();
        due(x.bound(0, 3), 50);
        due(x.bound(1, 2), 3);
        due(x.told(0), 3);
        due(x.told(1), 2);
        promise(8, "OUTSIDE.");
        without(Noted::new, (y, v) -> y.bound(v, 3), 0, 1, OUTSIDE);
        terms("FLOOR (0 .. 99999; 50 at first)");
        Noted floor = new Noted();
        due(floor.bound(0, 0), 50);
        due(floor.told(0), 0);
        due(floor.bound(0, 99999), 0);
        due(floor.told(0), 99999);
        due(floor.bound(0, 99999), 99999);
        without(Noted::new, (y, v) -> y.bound(0, v), 0, 99999, OUTSIDE);
        terms("(REACH 1 .. 5; 3 at first)");
        Noted reach = new Noted();
        due(reach.bound(1, 1), 3);
        due(reach.told(1), 1);
        due(reach.bound(1, 5), 1);
        due(reach.told(1), 5);
        due(reach.bound(1, 5), 5);
        without(Noted::new, (y, v) -> y.bound(1, v), 1, 5, OUTSIDE);
    }

    private static void undo() {
        promise(9, "The latest is undone: how many more can be. NOT: none.");
        Noted x = new Noted().numbers(0, 1, 2);
        due(x.undo(), 1);
        due(x.undo(), 0);
        due(x.undo(), NOT);
    }

    private static void told() {
        promise(10, "12 how many can be undone. OUTSIDE.");
        due(five().told(0), 50);
        due(five().told(12), 8);
        without(BoundsTest::five, (x, v) -> x.told(v), 0, 12, OUTSIDE);
    }

    private static void row() {
        promise(11, "UNKNOWN, OUTSIDE.");
        due(five().row(0, 0), 16);
        due(five().row(4, 0), 16);
        without(BoundsTest::five, (x, v) -> x.row(v, 0), 0, 4, UNKNOWN);
        promise(11, "what = 0 numbers, 1 WINDOWS, 2 WINDOWS with a PEAK");
        int[] want = {16, 2, 2, 1, 800, 1};
        for (int what = 0; what < want.length; what++) {
            due(five().row(3, what), want[what]);
        }
        without(BoundsTest::five, (x, v) -> x.row(0, v), 0, 5, OUTSIDE);
        promise(11, "of like ones the least (NONE)");
        due(new Noted().waves(0, 7, 6).row(0, 5), 6);
        due(new Noted().waves(0, 7, 1, 7, 1).row(0, 5), 1);
        due(new Noted().waves(0, 7, 1, 7).row(0, 5), 7);
        due(new Noted().waves(0, 0).row(0, 5), NONE);
        due(new Noted().many(0, 7, 100).row(0, 5), NONE);
    }

    private static void at() {
        promise(12, "Number i of a row.");
        due(new Noted().numbers(0, 8).at(0, 0), 8);
        due(new Noted().numbers(4, 8).at(4, 0), 8);
        promise(12, "UNKNOWN");
        without(BoundsTest::five, (x, v) -> x.at(v, 0), 0, 4, UNKNOWN);
        promise(12, "OUTSIDE: there is none.");
        due(five().at(2, 0), 20);
        due(five().at(2, 15), -20);
        without(BoundsTest::five, (x, v) -> x.at(2, v), 0, 15, OUTSIDE);
        due(oneFull().at(1, 0), 24);
        due(oneFull().at(1, 127), lastOfLots(128, 1));
        without(BoundsTest::oneFull, (x, v) -> x.at(1, v), 0, 127, OUTSIDE);
        due(oneFull().at(0, 0), OUTSIDE);
        due(oneFull().at(2, 0), OUTSIDE);
    }

    private static void share() {
        promise(13, "SHARE of a WAVE (0 .. 7) in a WINDOW of a row.");
        due(new Noted().wave(0, 0, 30).share(0, 0, 0), 900);
        due(new Noted().wave(4, 7, 30).share(4, 0, 7), 900);
        without(BoundsTest::five, (x, v) -> x.share(0, 0, v), 0, 7, OUTSIDE);
        promise(13, "UNKNOWN, OUTSIDE.");
        without(BoundsTest::five, (x, v) -> x.share(v, 0, 0), 0, 4, UNKNOWN);
        due(five().share(0, 0, 1), 400);
        due(five().share(0, 1, 2), 400);
        without(BoundsTest::five, (x, v) -> x.share(0, v, 0), 0, 1, UNKNOWN);
        without(BoundsTest::oneFull, (x, v) -> x.share(1, v, 0), 0, 15, UNKNOWN);
        holds("window 15 of a full row", oneFull().share(1, 15, 0) >= 0);
    }

    private static void peak() {
        promise(14, "PEAK of a WINDOW; NONE. UNKNOWN.");
        due(five().peak(0, 0), 1);
        due(five().peak(4, 1), 2);
        due(new Noted().waves(3, 0).peak(3, 0), NONE);
        without(BoundsTest::five, (x, v) -> x.peak(v, 0), 0, 4, UNKNOWN);
        without(BoundsTest::five, (x, v) -> x.peak(0, v), 0, 1, UNKNOWN);
        due(new Noted().zeros(1).peak(1, 15), NONE);
        without(BoundsTest::oneFull, (x, v) -> x.peak(1, v), 0, 15, UNKNOWN);
    }

    private static void key() {
        promise(15, "The KEY of WINDOWS v and w of a row; NONE: there is none. UNKNOWN.");
        due(five().key(0, 0, 1), 74);
        due(five().key(4, 0, 1), 74);
        due(five().key(0, 0, 0), NONE);
        due(five().key(0, 1, 1), NONE);
        due(five().key(0, 1, 0), NONE);
        without(BoundsTest::five, (x, v) -> x.key(v, 0, 1), 0, 4, UNKNOWN);
        without(BoundsTest::five, (x, v) -> x.key(0, v, 1), 0, 1, UNKNOWN);
        without(BoundsTest::five, (x, v) -> x.key(0, 0, v), 0, 1, UNKNOWN);
        without(BoundsTest::five, (x, v) -> x.key(0, v, v), 0, 1, UNKNOWN);
        Noted x = new Noted().zeros(1);
        x.bound(0, 0);
        due(x.key(1, 0, 1), 73);
        due(x.key(1, 14, 15), 73);
        due(x.key(1, 15, 16), UNKNOWN);
        due(x.key(1, -1, 0), UNKNOWN);
    }

    /** Key 74 (waves 1, 2) stands in pieces 0 and 3, keys 81 (waves 2, 1) and 137 (waves 1, 1, far by two) in piece 0 alone. */
    private static Noted ledger() {
        return new Noted().waves(0, 1, 2, 1).waves(3, 1, 2);
    }

    private static void keyAt() {
        promise(16, "The k-th KEY of THE LEDGER (rising); NONE: not so many.");
        due(ledger().keyAt(0), 74);
        due(ledger().keyAt(1), 81);
        due(ledger().keyAt(2), 137);
        due(ledger().keyAt(3), NONE);
        due(ledger().keyAt(MAX), NONE);
        promise(16, "OUTSIDE: below 0.");
        due(ledger().keyAt(-1), OUTSIDE);
        due(ledger().keyAt(MIN), OUTSIDE);
    }

    private static void places() {
        promise(17, "of a KEY (64 .. 383). OUTSIDE.");
        due(ledger().places(64), 0);
        due(ledger().places(74), 2);
        due(ledger().places(383), 0);
        without(BoundsTest::ledger, (x, v) -> x.places(v), 64, 383, OUTSIDE);
        Noted x = new Noted().waves(2, 7, 0, 0, 0, 0, 7);
        x.bound(1, 5);
        due(x.places(383), 1);
        due(x.places(382), 0);
    }

    private static void place() {
        promise(18, "Place i of a KEY: 1000 times the PIECE, and AT; NONE: not so many.");
        due(ledger().place(74, 0), 0);
        due(ledger().place(74, 1), 3000);
        due(ledger().place(74, 2), NONE);
        due(ledger().place(74, MAX), NONE);
        due(ledger().place(81, 0), 1);
        due(ledger().place(81, 1), NONE);
        due(ledger().place(64, 0), NONE);
        due(ledger().place(383, 0), NONE);
        Noted last = new Noted().many(3, 112, 0).waves(3, 7, 7);
        due(last.place(64 + 63, 0), 3014);
        promise(18, "OUTSIDE (i below 0, too).");
        due(ledger().place(74, -1), OUTSIDE);
        due(ledger().place(74, MIN), OUTSIDE);
        due(ledger().place(64, -1), OUTSIDE);
        without(BoundsTest::ledger, (x, v) -> x.place(v, 0), 64, 383, OUTSIDE);
    }

    private static void votes() {
        promise(19, "VOTES of a PIECE at an OFFSET (-15 .. 15).");
        due(five().votes(0, 0), 1);
        due(five().votes(3, 0), 1);
        due(five().votes(0, -15), 0);
        due(five().votes(0, 15), 0);
        due(five().votes(3, -15), 0);
        due(five().votes(3, 15), 0);
        without(BoundsTest::five, (x, v) -> x.votes(0, v), -15, 15, OUTSIDE);
        without(BoundsTest::five, (x, v) -> x.votes(3, v), -15, 15, OUTSIDE);
        promise(19, "UNKNOWN (4, too), OUTSIDE.");
        due(five().votes(4, 0), UNKNOWN);
        without(BoundsTest::five, (x, v) -> x.votes(v, 0), 0, 3, UNKNOWN);
    }

    private static void rank() {
        promise(20, "RANK k (0 the best): what = 0 PIECE, 1 OFFSET and 100, 2 VOTES; NONE: not so many.");
        for (int k = 0; k <= 3; k++) {
            due(five().rank(k, 0), k);
            due(five().rank(k, 1), 100);
            due(five().rank(k, 2), 1);
        }
        for (int what = 0; what <= 2; what++) {
            due(five().rank(4, what), NONE);
            due(five().rank(MAX, what), NONE);
        }
        promise(20, "OUTSIDE (what, k below 0).");
        without(BoundsTest::five, (x, v) -> x.rank(0, v), 0, 2, OUTSIDE);
        without(BoundsTest::five, (x, v) -> x.rank(4, v), 0, 2, OUTSIDE);
        for (int what = 0; what <= 2; what++) {
            due(five().rank(-1, what), OUTSIDE);
            due(five().rank(MIN, what), OUTSIDE);
        }
        due(new Noted().rank(-1, 0), OUTSIDE);
        due(new Noted().rank(0, 3), OUTSIDE);
    }

    private static void keep() {
        promise(21, "1. UNKNOWN.");
        due(five().keep(0), 1);
        due(five().keep(1), 1);
        without(BoundsTest::five, (x, v) -> x.keep(v), 0, 1, UNKNOWN);
    }

    private static Noted kept() {
        Noted x = five();
        x.keep(0);
        x.keep(1);
        return x;
    }

    private static void goBack() {
        promise(22, "1. UNKNOWN, NOT: it was not kept.");
        due(kept().goBack(0), 1);
        due(kept().goBack(1), 1);
        without(BoundsTest::kept, (x, v) -> x.goBack(v), 0, 1, UNKNOWN);
        due(five().goBack(0), NOT);
        due(five().goBack(1), NOT);
        without(BoundsTest::five, (x, v) -> x.goBack(v), 0, 1, UNKNOWN);
    }
}
