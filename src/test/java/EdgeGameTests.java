/** The sentences that name a boundary of promises 1 to 6: a new object, game, player, deals, type, clear. */
public final class EdgeGameTests {
    private EdgeGameTests() {
    }

    public static void main(String[] args) {
        aNewObject();
        game();
        player();
        deals();
        typeAndClear();
        Edge.end("EdgeGameTests", 1, 6);
    }

    // ---- promise 1

    private static void aNewObject() {
        Edge.test(1, "PLAYERS have KINDS (0, 0 at first); MOVES have numbers, 0 at first", EdgeGameTests::allNumbersAreZero);
        Edge.test(1, "no CARDS", EdgeGameTests::noCards);
        Edge.test(1, "THE FRACTION is 0 by 1 at first", EdgeGameTests::fractionAtFirst);
        Edge.test(1, "As told: nothing refused, to undo, kept or typed", EdgeGameTests::nothingKept);
        Edge.test(1, "A new object has nothing of another one", EdgeGameTests::objectsAreApart);
        Edge.test(1, "all as at first is in none of the stirred scene's numbers", EdgeGameTests::theStirredSceneIsStirred);
    }

    private static void allNumbersAreZero() {
        Check.counts(new BeggarPile(), 0, 0, 0, 0, 0, 0, 0, 0, 0, 0, 0, 0, 0, 0);
    }

    private static void noCards() {
        for (int row = 0; row <= 2; row++) {
            int p = row;
            Edge.bad(BeggarPile::new, "card(" + p + ", 0)", x -> x.card(p, 0));
        }
    }

    private static void fractionAtFirst() {
        BeggarPile x = new BeggarPile();
        Check.due("part(0)", x.part(0), 0);
        Check.due("part(1)", x.part(1), 1);
    }

    private static void nothingKept() {
        BeggarPile x = new BeggarPile();
        for (int what = 0; what <= 2; what++) {
            Check.due("status(" + what + ")", x.status(what), 0);
        }
        Check.due("undo()", x.undo(), BeggarPile.NO);
        Check.due("from(0)", x.from(0), BeggarPile.NO);
        Check.due("from(1)", x.from(1), BeggarPile.NO);
        Check.due("read()", x.read(), -10);
        Check.due("is()", x.is(), 63);
        Check.due("kinds(0)", x.kinds(0), 63);
        Check.due("kinds(1)", x.kinds(1), 63);
    }

    private static void objectsAreApart() {
        BeggarPile before = new BeggarPile();
        BeggarPile stirred = Scenes.stirred();
        long digest = new BeggarPile().digest();
        Check.due("digest() of one made before", before.digest(), digest);
        Check.due("from(0) of one made before", before.from(0), BeggarPile.NO);
        before.game(5, 5);
        Check.due("count(8) of the other", stirred.count(8), 3);
        Check.due("from(0) of the other", stirred.from(0), 1);
    }

    /** So that a call which brings one of these back to what it was at first is found out. */
    private static void theStirredSceneIsStirred() {
        BeggarPile x = Scenes.stirred();
        Check.counts(x, 3, 4, 5, 1, 4, 18, 2, 2, 3, 1, 2, 3, 6, 41);
        Check.due("part(0)", x.part(0), 5);
        Check.due("part(1)", x.part(1), 6);
        Check.due("status(0)", x.status(0), 3);
        Check.due("status(1)", x.status(1), 2);
        Check.due("status(2)", x.status(2), 1);
    }

    // ---- promise 2

    private static void game() {
        Edge.test(2, "BAD: KINDS of PLAYERS are 0 .. 5", () -> {
            Edge.bounds(Scenes::stirred, "game(#, 4)", 0, 5, (x, kind) -> x.game(kind, 4));
            Edge.bounds(Scenes::stirred, "game(4, #)", 0, 5, (x, kind) -> x.game(4, kind));
            Edge.bad(Scenes::stirred, "game(6, -1)", x -> x.game(6, -1));
        });
        Edge.test(2, "KINDS of PLAYERS 0, 1", EdgeGameTests::everyPairOfKinds);
        Edge.test(2, "how many CARDS there were", EdgeGameTests::howManyThereWere);
        Edge.test(2, "all else as at first", EdgeGameTests::allElseAsAtFirst);
        Edge.test(2, "(but for IMAGES, THE TEXT, THE FRACTION, STATUS)", EdgeGameTests::whatGameLeaves);
        Edge.test(2, "all else as at first, where it is DONE, where MOVES are 9999", EdgeGameTests::gameFromAnEnd);
    }

    private static void everyPairOfKinds() {
        for (int zero = 0; zero <= 5; zero++) {
            for (int one = 0; one <= 5; one++) {
                BeggarPile x = new BeggarPile();
                Check.due("game(" + zero + ", " + one + ")", x.game(zero, one), 0);
                Check.due("count(8)", x.count(8), zero);
                Check.due("count(9)", x.count(9), one);
            }
        }
    }

    private static void howManyThereWere() {
        Check.due("game(0, 0), no card", new BeggarPile().game(0, 0), 0);
        Check.due("game(0, 0), one", Scenes.holding(0, 1, 0).get().game(0, 0), 1);
        Check.due("game(0, 0), one in the pile", Scenes.holding(0, 0, 1).get().game(0, 0), 1);
        Check.due("game(0, 0), 16 in hand 1", Scenes.holding(0, 16, 0).get().game(0, 0), 16);
        Check.due("game(0, 0), 16 in the pile", Scenes.holding(0, 0, 16).get().game(0, 0), 16);
        Check.due("game(0, 0), 16 everywhere", Scenes.holding(5, 4, 7).get().game(0, 0), 16);
        BeggarPile x = Scenes.holding(1, 1, 1).get();
        Check.due("game(0, 0)", x.game(0, 0), 3);
        Check.due("game(0, 0) again", x.game(0, 0), 0);
    }

    private static void allElseAsAtFirst() {
        BeggarPile x = Scenes.stirred();
        Check.due("game(5, 0)", x.game(5, 0), 12);
        Check.counts(x, 0, 0, 0, 0, 0, 0, 0, 0, 5, 0, 0, 0, 0);
        Check.due("is()", x.is(), 63);
        Check.due("kinds(1)", x.kinds(1), 63);
        Check.due("undo()", x.undo(), BeggarPile.NO);
        Check.due("sixteen may be dealt", dealtTillFull(x), 16);
    }

    private static int dealtTillFull(BeggarPile x) {
        int dealt = 0;
        while (dealt < 20 && x.deals(dealt % 2, 0) > 0) {
            dealt++;
        }
        return dealt;
    }

    private static void whatGameLeaves() {
        BeggarPile x = Scenes.stirred();
        BeggarPile left = Scenes.stirred();
        x.game(0, 0);
        Check.due("part(0)", x.part(0), left.part(0));
        Check.due("part(1)", x.part(1), left.part(1));
        for (int what = 0; what <= 2; what++) {
            Check.due("status(" + what + ")", x.status(what), left.status(what));
        }
        Check.due("count(13)", x.count(13), left.count(13));
        for (int i = 0; i <= 1; i++) {
            Check.due("from(" + i + ")", x.from(i), left.from(i));
            Check.due("its digest", x.digest(), left.digest());
        }
        Check.due("read()", x.read(), left.read());
        Check.due("its digest", x.digest(), left.digest());
    }

    private static void gameFromAnEnd() {
        BeggarPile x = Scenes.done();
        Check.due("lays(1), it being done", x.lays(1), BeggarPile.NO);
        Check.due("game(0, 0)", x.game(0, 0), 12);
        x.deals(0, 0);
        Check.due("lays(1)", x.lays(1), 1);
        x = Scenes.spent();
        Check.due("lays(1), moves being 9999", x.lays(1), BeggarPile.NO);
        Check.due("game(0, 0)", x.game(0, 0), 6);
        x.deals(0, 0);
        Check.due("lays(1)", x.lays(1), 1);
        Check.due("count(5)", x.count(5), 1);
    }

    // ---- promise 3

    private static void player() {
        Edge.test(3, "BAD: PLAYERS 0, 1; KINDS 0 .. 5", () -> {
            Edge.bounds(Scenes::stirred, "player(#, 2)", 0, 1, (x, p) -> x.player(p, 2));
            Edge.bounds(Scenes::stirred, "player(0, #)", 0, 5, (x, kind) -> x.player(0, kind));
            Edge.bounds(Scenes::stirred, "player(1, #)", 0, 5, (x, kind) -> x.player(1, kind));
            Edge.bad(Scenes::stirred, "player(2, 6)", x -> x.player(2, 6));
        });
        Edge.test(3, "A PLAYER's KIND: what it was", EdgeGameTests::whatItWas);
        Edge.test(3, "behind a PLAYER told none may be undone", EdgeGameTests::noneUndoneBehindAPlayer);
        Edge.test(3, "A PLAYER's KIND, and nothing else", EdgeGameTests::onlyTheKindChanges);
    }

    private static void whatItWas() {
        for (int p = 0; p <= 1; p++) {
            BeggarPile x = new BeggarPile();
            int was = 0;
            int[] told = {5, 0, 1, 1, 2, 3, 4, 5};
            for (int kind : told) {
                Check.due("player(" + p + ", " + kind + ")", x.player(p, kind), was);
                Check.due("count of its kind", x.count(8 + p), kind);
                Check.due("count of the other's", x.count(9 - p), 0);
                was = kind;
            }
        }
    }

    private static void noneUndoneBehindAPlayer() {
        int[] told = {3, 5};
        for (int kind : told) {
            BeggarPile x = Scenes.stirred();
            Check.due("count(12) ahead", x.count(12), 6);
            x.player(0, kind);
            Check.due("count(12) behind player(0, " + kind + ")", x.count(12), 0);
            Check.due("undo()", x.undo(), BeggarPile.NO);
            x.exchanges(0, 0);
            Check.due("what is done later may be undone", x.undo(), 18);
            Check.due("undo(), no further back", x.undo(), BeggarPile.NO);
        }
    }

    private static void onlyTheKindChanges() {
        BeggarPile x = Scenes.stirred();
        BeggarPile left = Scenes.stirred();
        x.player(1, 5);
        for (int what = 0; what <= 13; what++) {
            Check.due("count(" + what + ")", x.count(what), what == 9 ? 5 : what == 12 ? 0 : left.count(what));
        }
        for (int p = 0; p <= 2; p++) {
            Check.row(x, p, Check.row(left, p));
        }
        Check.due("is()", x.is(), left.is());
        Check.due("kinds(1)", x.kinds(1), left.kinds(1));
        Check.due("part(1)", x.part(1), left.part(1));
    }

    // ---- promise 4

    private static void deals() {
        Edge.test(4, "BAD: PLAYERS 0, 1; KINDS of CARDS 0 .. 5", () -> {
            Edge.bounds(Scenes::stirred, "deals(#, 2)", 0, 1, (x, p) -> x.deals(p, 2));
            Edge.bounds(Scenes::stirred, "deals(0, #)", 0, 5, (x, kind) -> x.deals(0, kind));
            Edge.bounds(Scenes::stirred, "deals(1, #)", 0, 5, (x, kind) -> x.deals(1, kind));
        });
        Edge.test(4, "FULL: 16 in all, wherever they are", EdgeGameTests::sixteenInAll);
        Edge.test(4, "the first of: BAD, FULL", EdgeGameTests::badAheadOfFull);
        Edge.test(4, "A CARD comes behind a HAND: how many it has", EdgeGameTests::comesBehind);
        Edge.test(4, "behind a CARD dealt none may be undone", EdgeGameTests::noneUndoneBehindACard);
        Edge.test(4, "A CARD comes behind a HAND that is empty, it being DONE", EdgeGameTests::dealtToAnEmptyHand);
    }

    private static void sixteenInAll() {
        int[][] lying = {{16, 0, 0}, {0, 16, 0}, {8, 8, 0}, {15, 1, 0}, {1, 15, 0}, {15, 0, 1}, {0, 1, 15}, {0, 0, 16}, {5, 4, 7}};
        for (int[] cards : lying) {
            for (int hand = 0; hand <= 1; hand++) {
                int p = hand;
                String where = cards[0] + ", " + cards[1] + ", " + cards[2] + " cards: deals(" + p + ", 0)";
                Edge.full(Scenes.holding(cards[0], cards[1], cards[2]), where, x -> x.deals(p, 0));
            }
        }
        int[][] oneLess = {{15, 0, 0}, {0, 15, 0}, {8, 7, 0}, {7, 8, 0}, {7, 7, 1}, {0, 0, 15}, {14, 0, 1}};
        for (int[] cards : oneLess) {
            for (int p = 0; p <= 1; p++) {
                BeggarPile x = Scenes.holding(cards[0], cards[1], cards[2]).get();
                Check.due("the 16th card", x.deals(p, 5), cards[p] + 1);
                Check.due("the 17th card", x.deals(p, 5), BeggarPile.FULL);
            }
        }
        Edge.full(Scenes::sixteen, "deals(1, 3)", x -> x.deals(1, 3));
    }

    private static void badAheadOfFull() {
        Edge.bad(Scenes::sixteen, "deals(2, 0)", x -> x.deals(2, 0));
        Edge.bad(Scenes::sixteen, "deals(-1, 0)", x -> x.deals(-1, 0));
        Edge.bad(Scenes::sixteen, "deals(0, 6)", x -> x.deals(0, 6));
        Edge.bad(Scenes::sixteen, "deals(0, -1)", x -> x.deals(0, -1));
    }

    private static void comesBehind() {
        BeggarPile x = new BeggarPile();
        String cards = "";
        for (int i = 0; i < 16; i++) {
            Check.due("deals(1, " + i % 6 + ")", x.deals(1, i % 6), i + 1);
            cards += i % 6;
            Check.row(x, 1, cards);
            Check.due("count(0)", x.count(0), 0);
        }
        x = Scenes.stirred();
        BeggarPile left = Scenes.stirred();
        Check.due("deals(0, 5) in a game", x.deals(0, 5), 4);
        Check.due("deals(1, 4) in a game", x.deals(1, 4), 5);
        Check.row(x, 0, Check.row(left, 0) + "5");
        Check.row(x, 1, Check.row(left, 1) + "4");
        Check.row(x, 2, Check.row(left, 2));
        for (int what = 2; what <= 13; what++) {
            Check.due("count(" + what + ")", x.count(what), what == 12 ? 0 : left.count(what));
        }
    }

    private static void noneUndoneBehindACard() {
        BeggarPile x = Scenes.stirred();
        Check.due("count(12) ahead", x.count(12), 6);
        x.deals(1, 0);
        Check.due("count(12) behind", x.count(12), 0);
        Check.due("undo()", x.undo(), BeggarPile.NO);
        x.lays(3);
        Check.due("what is laid later may be undone", x.undo(), 18);
        Check.due("undo(), no further back", x.undo(), BeggarPile.NO);
    }

    private static void dealtToAnEmptyHand() {
        BeggarPile x = Scenes.holding(0, 0, 2).get();
        Check.due("lays(1), done", x.lays(1), BeggarPile.NO);
        Check.due("deals(1, 0), the other's hand", x.deals(1, 0), 1);
        Check.due("lays(1), still done", x.lays(1), BeggarPile.NO);
        Check.due("deals(0, 0)", x.deals(0, 0), 1);
        Check.due("lays(1), it goes on", x.lays(1), 1);
    }

    // ---- promises 5 and 6

    private static void typeAndClear() {
        Edge.test(5, "BAD: A byte (0 .. 127)", () -> Edge.bounds(Scenes::stirred, "type(#)", 0, 127, (x, c) -> x.type(c)));
        Edge.test(5, "A byte comes behind THE TEXT: how many it has; 150 bytes at most; FULL", EdgeGameTests::hundredAndFifty);
        Edge.test(5, "the first of: BAD, FULL", () -> {
            Edge.bad(EdgeGameTests::typedFull, "type(-1)", x -> x.type(-1));
            Edge.bad(EdgeGameTests::typedFull, "type(128)", x -> x.type(128));
        });
        Edge.test(6, "THE TEXT is empty: how many it had", EdgeGameTests::howManyItHad);
        Edge.test(6, "THE TEXT is empty, and nothing else", EdgeGameTests::onlyTheTextIsEmptied);
    }

    /** The text is a game of 150 bytes. */
    private static BeggarPile typedFull() {
        return Scenes.telling("game 2 5;hand 0 4 0 1;" + " ".repeat(128)).get();
    }

    private static void hundredAndFifty() {
        BeggarPile x = new BeggarPile();
        for (int i = 1; i <= 150; i++) {
            Check.due("type(32)", x.type(32), i);
            Check.due("count(13)", x.count(13), i);
        }
        Check.due("type(32), a 151st", x.type(32), BeggarPile.FULL);
        Check.due("count(13)", x.count(13), 150);
        Edge.full(EdgeGameTests::typedFull, "type(0)", y -> y.type(0));
        Edge.full(EdgeGameTests::typedFull, "type(127)", y -> y.type(127));
        Check.due("clear()", x.clear(), 150);
        Check.due("type(59), there being room again", x.type(59), 1);
    }

    private static void howManyItHad() {
        int[] typed = {0, 1, 149, 150};
        for (int bytes : typed) {
            BeggarPile x = new BeggarPile();
            Scenes.type(x, "g".repeat(bytes));
            Check.due("clear()", x.clear(), bytes);
            Check.due("count(13)", x.count(13), 0);
            Check.due("read() of an empty text", x.read(), -10);
            Check.due("clear() again", x.clear(), 0);
        }
        BeggarPile x = Scenes.dealt("00", "", "");
        Scenes.type(x, "hand 0 0;");
        x.clear();
        Scenes.type(x, "game 1 2;");
        Check.due("read(), nothing of the old text", x.read(), 1);
    }

    private static void onlyTheTextIsEmptied() {
        BeggarPile x = Scenes.stirred();
        BeggarPile left = Scenes.stirred();
        Check.due("clear()", x.clear(), 41);
        for (int what = 0; what <= 12; what++) {
            Check.due("count(" + what + ")", x.count(what), left.count(what));
        }
        for (int what = 0; what <= 2; what++) {
            Check.due("status(" + what + ")", x.status(what), left.status(what));
        }
        Check.due("part(1)", x.part(1), left.part(1));
        Check.due("undo()", x.undo(), left.undo());
        Check.due("from(1)", x.from(1), left.from(1));
        Check.due("count(5)", x.count(5), left.count(5));
    }
}
