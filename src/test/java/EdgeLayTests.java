import java.util.function.Supplier;

/** The sentences that name a boundary of promises 8 to 11: lays, exchanges, undo, card. */
public final class EdgeLayTests {
    private EdgeLayTests() {
    }

    public static void main(String[] args) {
        lays();
        moves();
        kindsOfCards();
        kindsOfPlayers();
        exchanges();
        undo();
        card();
        Edge.end("EdgeLayTests", 8, 11);
    }

    private static void taken(BeggarPile x, int zero, int one) {
        Check.due("count(6), taken", x.count(6), zero);
        Check.due("count(7), taken", x.count(7), one);
    }

    // ---- promise 8: how many

    private static void lays() {
        Edge.test(8, "BAD: n MOVES (1 .. 60)", () -> Edge.bounds(Scenes::stirred, "lays(#)", 1, 60, (x, n) -> x.lays(n)));
        Edge.test(8, "n MOVES: how many were done", () -> {
            for (int n = 1; n <= 60; n++) {
                BeggarPile x = Scenes.endless();
                Check.due("lays(" + n + ")", x.lays(n), n);
                Check.due("count(5)", x.count(5), n);
                Check.due("count(12)", x.count(12), 1);
            }
        });
        Edge.test(8, "fewer, if it is DONE", EdgeLayTests::fewerIfDone);
        Edge.test(8, "NO: it is DONE", EdgeLayTests::noIfDone);
        Edge.test(8, "fewer, if MOVES are 9999 (9999 at most)", EdgeLayTests::fewerIfSpent);
        Edge.test(8, "NO: MOVES are 9999", () -> {
            Edge.no(Scenes::spent, "lays(1)", x -> x.lays(1));
            Edge.no(Scenes::spent, "lays(60)", x -> x.lays(60));
        });
        Edge.test(8, "the first of: BAD, NO", () -> {
            int[] wrong = {0, 61, -1};
            for (int n : wrong) {
                Edge.bad(Scenes::done, "lays(" + n + "), it being done", x -> x.lays(n));
                Edge.bad(Scenes::spent, "lays(" + n + "), moves being 9999", x -> x.lays(n));
                Edge.bad(BeggarPile::new, "lays(" + n + "), without cards", x -> x.lays(n));
            }
        });
        Edge.test(8, "TAKEN by each PLAYER (0 .. 9999)", EdgeLayTests::takenToTheEnd);
    }

    private static void fewerIfDone() {
        for (int n = 1; n <= 4; n++) {
            BeggarPile x = Scenes.dealt("00", "1", "0");
            Check.due("lays(" + n + ") of 3 there are", x.lays(n), Math.min(n, 3));
            Check.due("count(5)", x.count(5), Math.min(n, 3));
        }
        Check.due("lays(60) of 26 there are", Scenes.stirred().lays(60), 26);
        BeggarPile x = Scenes.stirred();
        Check.due("lays(26), just so many", x.lays(26), 26);
        Check.due("lays(1), none", x.lays(1), BeggarPile.NO);
        x = Scenes.stirred();
        Check.due("lays(25), one less", x.lays(25), 25);
        Check.due("lays(2), the last one", x.lays(2), 1);
    }

    private static void noIfDone() {
        Edge.no(BeggarPile::new, "lays(1), no cards", x -> x.lays(1));
        Edge.no(Scenes.holding(0, 1, 0), "lays(1), the other having one", x -> x.lays(1));
        Edge.no(Scenes.holding(0, 16, 0), "lays(60), the other having all", x -> x.lays(60));
        Edge.no(Scenes.holding(0, 0, 16), "lays(60), the pile having all", x -> x.lays(60));
        Edge.no(Scenes::done, "lays(1)", x -> x.lays(1));
        Edge.no(Scenes::done, "lays(60)", x -> x.lays(60));
        BeggarPile x = Scenes.holding(1, 0, 0).get();
        Check.due("lays(1), only the other's hand being empty", x.lays(1), 1);
        Check.due("lays(1), now it is that one's turn", x.lays(1), BeggarPile.NO);
    }

    private static void fewerIfSpent() {
        int[][] left = {{9939, 60, 60}, {9940, 60, 59}, {9940, 59, 59}, {9960, 39, 39}, {9960, 40, 39}, {9998, 1, 1}, {9998, 2, 1}, {9998, 60, 1}};
        for (int[] at : left) {
            BeggarPile x = Scenes.at(at[0]);
            Check.due("count(5)", x.count(5), at[0]);
            Check.due("lays(" + at[1] + ") at " + at[0], x.lays(at[1]), at[2]);
            Check.due("count(5)", x.count(5), at[0] + at[2]);
            Check.due("undo()", x.undo(), at[0]);
        }
        BeggarPile x = Scenes.spent();
        x.undo();
        Check.due("lays(38) behind an undo", x.lays(38), 38);
        Check.due("lays(60), the last one", x.lays(60), 1);
        Check.due("lays(60), no more", x.lays(60), BeggarPile.NO);
    }

    private static void takenToTheEnd() {
        BeggarPile x = Scenes.spent();
        taken(x, 1666, 1667);
        Check.state(x, "1", "00100", "", 1, 0);
        x.undo();
        taken(x, 1660, 1660);
        x = Scenes.at(9998);
        taken(x, 1666, 1666);
        x.lays(60);
        taken(x, 1666, 1667);
    }

    // ---- promise 8: what a move does

    private static void moves() {
        Edge.test(8, "no DEBT: it is the other's TURN", EdgeLayTests::noDebt);
        Edge.test(8, "with a DEBT, that is 1 less; if it is not 0, the TURN stays", EdgeLayTests::paying);
        Edge.test(8, "if it is 0 then, the other one TAKES THE PILE", EdgeLayTests::theLastOnePaid);
        Edge.test(8, "if any are OWED for it: DEBT is that many, with a DEBT, too", EdgeLayTests::courtForCourt);
        Edge.test(8, "DONE, if the HAND of the one whose TURN it is is empty: the payer's", EdgeLayTests::payerRunsOut);
        Edge.test(8, "not DONE while it is not that one's TURN", EdgeLayTests::emptyHandFilledAgain);
    }

    private static void noDebt() {
        BeggarPile x = Scenes.dealt("00", "00", "00");
        x.lays(1);
        Check.state(x, "0", "00", "0", 1, 0);
        x.lays(1);
        Check.state(x, "0", "0", "00", 0, 0);
        x.lays(2);
        Check.state(x, "", "", "0000", 0, 0);
        taken(x, 0, 0);
    }

    private static void paying() {
        BeggarPile x = Scenes.dealt("00", "40", "00000");
        x.lays(1);
        Check.state(x, "0", "00000", "4", 1, 4);
        for (int debt = 3; debt >= 1; debt--) {
            x.lays(1);
            Check.due("count(4)", x.count(4), debt);
            Check.due("count(3)", x.count(3), 1);
            taken(x, 0, 0);
        }
        x.lays(1);
        Check.state(x, "040000", "0", "", 0, 0);
        taken(x, 1, 0);
    }

    private static void theLastOnePaid() {
        BeggarPile x = Scenes.dealt("00", "1", "0");
        x.lays(1);
        Check.state(x, "", "0", "1", 1, 1);
        x.lays(1);
        Check.state(x, "10", "", "", 0, 0);
        taken(x, 1, 0);
        x = Scenes.dealt("00", "00", "1");
        x.lays(2);
        Check.state(x, "0", "", "01", 0, 1);
        x.lays(1);
        Check.state(x, "", "010", "", 1, 0);
        taken(x, 0, 1);
    }

    private static void courtForCourt() {
        BeggarPile x = Scenes.dealt("00", "40", "00010");
        x.lays(4);
        Check.state(x, "0", "10", "4000", 1, 1);
        x.lays(1);
        Check.state(x, "0", "0", "40001", 0, 1);
        taken(x, 0, 0);
        x.lays(1);
        Check.state(x, "", "0400010", "", 1, 0);
        taken(x, 0, 1);
        x = Scenes.dealt("00", "12", "34");
        x.lays(2);
        Check.state(x, "2", "4", "13", 0, 3);
        x.lays(1);
        Check.state(x, "", "4", "132", 1, 2);
        x.lays(1);
        Check.state(x, "", "", "1324", 0, 4);
        Check.due("won()", x.won(), 1);
    }

    private static void payerRunsOut() {
        BeggarPile x = Scenes.dealt("00", "2", "0");
        Check.due("lays(60)", x.lays(60), 2);
        Check.state(x, "", "", "20", 1, 1);
        taken(x, 0, 0);
        Check.due("won()", x.won(), 0);
    }

    private static void emptyHandFilledAgain() {
        BeggarPile x = Scenes.dealt("00", "3", "0001");
        x.lays(1);
        Check.due("count(0)", x.count(0), 0);
        Check.due("lays(3)", x.lays(3), 3);
        Check.state(x, "3000", "1", "", 0, 0);
        Check.due("lays(1)", x.lays(1), 1);
    }

    // ---- promise 8: kinds

    private static void kindsOfCards() {
        Edge.test(8, "OWED for one that is the n-th of THE PILE (1 .. 16): NUMBER 0 .. ACE 4; JOKER: KNAVE, and n by 3 left over", () -> {
            for (int kind = 0; kind <= 5; kind++) {
                for (int n = 1; n <= 16; n++) {
                    int owed = kind == 5 ? new int[] {1, 2, 3}[n % 3] : kind;
                    owedFor(kind, n, owed);
                }
            }
        });
    }

    private static void owedFor(int kind, int n, int owed) {
        String zero = "0".repeat(n / 2) + (n % 2 == 1 ? String.valueOf(kind) : "");
        String one = "0".repeat((n - 1) / 2) + (n % 2 == 0 ? String.valueOf(kind) : "");
        BeggarPile x = Scenes.dealt("00", zero, one);
        Check.due("lays(" + n + ")", x.lays(n), n);
        Check.due("count(4), kind " + kind + " being the " + n + "-th", x.count(4), owed);
        Check.due("count(3)", x.count(3), n % 2);
        Check.due("count(2)", x.count(2), n);
    }

    private static void kindsOfPlayers() {
        Edge.test(8, "which CARD of THE PILE of n comes k-th (0 .. n less 1): n 2 .. 16, each KIND", () -> {
            for (int kind = 0; kind <= 5; kind++) {
                for (int n = 2; n <= 16; n++) {
                    takesInOrder(kind, n);
                }
            }
        });
    }

    /** The orders written out as rows, not by the document's formulas. */
    static int[] order(int kind, int n) {
        int[] row = new int[n];
        int at = 0;
        switch (kind) {
            case 1:
                for (int c = n - 1; c >= 0; c--) {
                    row[at++] = c;
                }
                break;
            case 2:
                for (int c = n / 2; c < n + n / 2; c++) {
                    row[at++] = c < n ? c : c - n;
                }
                break;
            case 3:
                for (int c = 0; c < n; c += 2) {
                    row[at++] = c;
                }
                for (int c = 1; c < n; c += 2) {
                    row[at++] = c;
                }
                break;
            case 4:
                for (int c = n / 2 - 1 + n; c >= n / 2; c--) {
                    row[at++] = c < n ? c : c - n;
                }
                break;
            case 5:
                for (int c = 0; c + 1 < n; c += 2) {
                    row[at++] = c + 1;
                    row[at++] = c;
                }
                if (n % 2 == 1) {
                    row[at] = n - 1;
                }
                break;
            default:
                for (int c = 0; c < n; c++) {
                    row[at++] = c;
                }
        }
        return row;
    }

    /**
     * A pile of n courts and, as its last card, the number that pays: knaves laid in turn owe one each, so that the
     * next court is no payment. Each place is looked at by a queen among the knaves there.
     */
    private static void takesInOrder(int kind, int n) {
        int[] order = order(kind, n);
        for (int queen = 0; queen < n - 1; queen++) {
            StringBuilder pile = new StringBuilder("1".repeat(n - 1)).append('0');
            pile.setCharAt(queen, queen == n - 2 ? '1' : '2');
            StringBuilder[] hands = {new StringBuilder(), new StringBuilder()};
            for (int i = 0; i < n; i++) {
                hands[i % 2].append(pile.charAt(i));
            }
            int taker = (n - 2) % 2;
            String kinds = taker == 0 ? kind + "" + (kind + 1) % 6 : (kind + 1) % 6 + "" + kind;
            BeggarPile x = Scenes.dealt(kinds, hands[0].toString(), hands[1].toString());
            Check.due("lays(" + n + ")", x.lays(n), n);
            StringBuilder want = new StringBuilder();
            for (int card : order) {
                want.append(pile.charAt(card));
            }
            Check.row(x, taker, want.toString());
            Check.row(x, 1 - taker, "");
            Check.due("count(6) and count(7)", x.count(6 + taker) * 10 + x.count(7 - taker), 10);
        }
    }

    // ---- promise 9

    private static void exchanges() {
        Edge.test(9, "BAD: no such PLACE, too", () -> {
            Edge.bounds(Scenes::stirred, "exchanges(#, 0)", 0, 2, (x, i) -> x.exchanges(i, 0));
            Edge.bounds(Scenes::stirred, "exchanges(0, #)", 0, 3, (x, j) -> x.exchanges(0, j));
            Edge.bounds(Scenes.holding(15, 1, 0), "exchanges(#, 0)", 0, 14, (x, i) -> x.exchanges(i, 0));
            Edge.bounds(Scenes.holding(1, 15, 0), "exchanges(0, #)", 0, 14, (x, j) -> x.exchanges(0, j));
            Edge.bounds(Scenes.holding(1, 1, 0), "exchanges(#, 0)", 0, 0, (x, i) -> x.exchanges(i, 0));
        });
        Edge.test(9, "BAD: no such PLACE, a HAND being empty", () -> {
            Edge.bad(BeggarPile::new, "exchanges(0, 0)", x -> x.exchanges(0, 0));
            Edge.bad(Scenes.holding(16, 0, 0), "exchanges(0, 0)", x -> x.exchanges(0, 0));
            Edge.bad(Scenes.holding(0, 16, 0), "exchanges(0, 0)", x -> x.exchanges(0, 0));
            Edge.bad(Scenes.holding(0, 0, 16), "exchanges(0, 0)", x -> x.exchanges(0, 0));
            Edge.bad(Scenes::done, "exchanges(0, 0)", x -> x.exchanges(0, 0));
        });
        Edge.test(9, "10 times the KIND that came to HAND 0, and the other", EdgeLayTests::everyPairOfKinds);
        Edge.test(9, "the CARD at PLACE i of HAND 0 with that at PLACE j of HAND 1", EdgeLayTests::everyPlace);
        Edge.test(9, "EXCHANGE, MOVES being 9999", () -> {
            BeggarPile x = Scenes.spent();
            Check.due("exchanges(0, 0)", x.exchanges(0, 0), 1);
            Check.state(x, "0", "10100", "", 1, 0);
            Check.due("undo()", x.undo(), 9999);
            Check.state(x, "1", "00100", "", 1, 0);
        });
    }

    private static void everyPairOfKinds() {
        for (int zero = 0; zero <= 5; zero++) {
            for (int one = 0; one <= 5; one++) {
                BeggarPile x = Scenes.dealt("00", "" + zero, "" + one);
                Check.due("exchanges(0, 0)", x.exchanges(0, 0), 10 * one + zero);
                Check.state(x, "" + one, "" + zero, "", 0, 0);
                Check.due("count(12), like ones too", x.count(12), 1);
            }
        }
    }

    private static void everyPlace() {
        for (int i = 0; i < 8; i++) {
            for (int j = 0; j < 8; j++) {
                BeggarPile x = Scenes.dealt("23", "12345123", "54321543");
                StringBuilder zero = new StringBuilder("12345123");
                StringBuilder one = new StringBuilder("54321543");
                int due = 10 * (one.charAt(j) - '0') + zero.charAt(i) - '0';
                char card = zero.charAt(i);
                zero.setCharAt(i, one.charAt(j));
                one.setCharAt(j, card);
                Check.due("exchanges(" + i + ", " + j + ")", x.exchanges(i, j), due);
                Check.state(x, zero.toString(), one.toString(), "", 0, 0);
                Check.due("count(5)", x.count(5), 0);
            }
        }
    }

    // ---- promise 10

    private static void undo() {
        Edge.test(10, "NO: none may be", () -> {
            Edge.no(BeggarPile::new, "undo()", x -> x.undo());
            Edge.no(Scenes.holding(8, 8, 0), "undo(), only dealt", x -> x.undo());
            Edge.no(EdgeLayTests::allUndone, "undo(), six undone", x -> x.undo());
        });
        Edge.test(10, "8 at most", EdgeLayTests::eightAtMost);
        Edge.test(10, "as ahead of the last laying (of any number of MOVES), EXCHANGE done: MOVES then", EdgeLayTests::asAhead);
        Edge.test(10, "HANDS, THE PILE, TURN, DEBT, TAKEN, MOVES, and nothing else", EdgeLayTests::nothingElse);
        Edge.test(10, "what was refused, asked, noted or typed is not undone", EdgeLayTests::onlyLayingsAndExchanges);
        Edge.test(10, "behind a game begun or read none may be", EdgeLayTests::noneBehindAGame);
    }

    private static BeggarPile allUndone() {
        BeggarPile x = Scenes.stirred();
        for (int i = 0; i < 6; i++) {
            x.undo();
        }
        return x;
    }

    private static void eightAtMost() {
        for (int done = 7; done <= 20; done++) {
            BeggarPile x = Scenes.holding(8, 8, 0).get();
            for (int i = 1; i <= done; i++) {
                Check.due("a laying or exchange", i % 3 == 0 ? x.exchanges(0, 0) / 100 : x.lays(1) - 1, 0);
                Check.due("count(12)", x.count(12), Math.min(i, 8));
            }
            int kept = Math.min(done, 8);
            for (int left = done - 1; left >= done - kept; left--) {
                Check.due("undo()", x.undo(), left - left / 3);
                Check.due("count(12)", x.count(12), left - (done - kept));
            }
            Check.due("undo(), " + done + " done, " + kept + " undone", x.undo(), BeggarPile.NO);
        }
    }

    private static void asAhead() {
        BeggarPile x = Scenes.stirred();
        int[] moves = {13, 11, 4, 4, 4, 0};
        for (int then : moves) {
            Check.due("undo()", x.undo(), then);
            Check.due("count(5)", x.count(5), then);
        }
        Check.state(x, "110003", "012240", "", 0, 0);
        taken(x, 0, 0);
        x = Scenes.at(60);
        Check.due("undo() of 60 moves", x.undo(), 0);
        x = Scenes.done();
        Check.due("undo() of the last moves", x.undo(), 18);
        Check.due("lays(1), it being done no more", x.lays(1), 1);
    }

    private static void nothingElse() {
        BeggarPile x = Scenes.stirred();
        BeggarPile left = Scenes.stirred();
        int[] back = {13, 11, 4};
        for (int moves : back) {
            Check.due("undo()", x.undo(), moves);
            BeggarPile laid = Scenes.dealt("31", "110003", "012240");
            laid.lays(moves);
            Check.state(x, Check.row(laid, 0), Check.row(laid, 1), Check.row(laid, 2), laid.count(3), laid.count(4));
            taken(x, laid.count(6), laid.count(7));
        }
        Check.due("count(12)", x.count(12), 3);
        int[] kept = {8, 9, 10, 11, 13};
        for (int what : kept) {
            Check.due("count(" + what + ")", x.count(what), left.count(what));
        }
        for (int what = 0; what <= 2; what++) {
            Check.due("status(" + what + ")", x.status(what), left.status(what));
        }
        Check.due("is()", x.is(), left.is());
        Check.due("kinds(1)", x.kinds(1), left.kinds(1));
        Check.due("part(0)", x.part(0), left.part(0));
        Check.due("from(0)", x.from(0), 1);
        left.from(0);
        Check.due("the image", x.digest(), left.digest());
    }

    private static void onlyLayingsAndExchanges() {
        BeggarPile x = Scenes.stirred();
        x.lays(61);
        x.exchanges(9, 9);
        x.player(2, 0);
        x.deals(0, 9);
        x.won();
        x.luck(1, 2);
        x.note(1, 1);
        x.mark(0, 1, 0, 0);
        x.forget(1);
        x.type(32);
        x.clear();
        x.read();
        x.image(0);
        Check.due("count(12)", x.count(12), 6);
        Check.due("undo()", x.undo(), 13);
    }

    private static void noneBehindAGame() {
        BeggarPile x = Scenes.stirred();
        x.game(3, 1);
        Check.due("count(12) behind game", x.count(12), 0);
        Check.due("undo()", x.undo(), BeggarPile.NO);
        x = Scenes.stirred();
        Check.due("read()", x.read(), 4);
        Check.due("count(12) behind read, with its layings", x.count(12), 0);
        Check.due("undo()", x.undo(), BeggarPile.NO);
    }

    // ---- promise 11

    private static void card() {
        Edge.test(11, "BAD: HAND 0, HAND 1, THE PILE (p 2)", () ->
                Edge.bounds(Scenes::stirred, "card(#, 0)", 0, 2, (x, p) -> x.card(p, 0)));
        Edge.test(11, "BAD: there is none, too", () -> {
            int[] last = {2, 3, 4};
            for (int row = 0; row <= 2; row++) {
                int p = row;
                Edge.bounds(Scenes::stirred, "card(" + p + ", #)", 0, last[p], (x, place) -> x.card(p, place));
                Edge.bad(BeggarPile::new, "card(" + p + ", 0)", x -> x.card(p, 0));
            }
            Edge.bad(Scenes.holding(16, 0, 0), "card(1, 0)", x -> x.card(1, 0));
            Edge.bad(Scenes.holding(8, 8, 0), "card(2, 0)", x -> x.card(2, 0));
            Edge.bounds(Scenes.holding(16, 0, 0), "card(0, #)", 0, 15, (x, place) -> x.card(0, place));
            Edge.bounds(Scenes.holding(0, 16, 0), "card(1, #)", 0, 15, (x, place) -> x.card(1, place));
            Edge.bounds(Scenes.holding(0, 0, 16), "card(2, #)", 0, 15, (x, place) -> x.card(2, place));
        });
        Edge.test(11, "KIND of the CARD at a PLACE, the one to be laid next first", EdgeLayTests::everyCard);
    }

    private static void everyCard() {
        String cards = "0123450123450123";
        Supplier<BeggarPile> scene = () -> Scenes.dealt("00", cards, "");
        for (int i = 0; i < 16; i++) {
            int place = i;
            Edge.leavesAll(scene, "card(0, " + place + ")", x -> x.card(0, place), cards.charAt(place) - '0');
            Edge.leavesAll(() -> Scenes.dealt("00", "", cards), "card(1, " + place + ")", x -> x.card(1, place), cards.charAt(place) - '0');
        }
        BeggarPile x = Scenes.dealt("00", "135", "24");
        x.lays(2);
        Check.due("card(0, 0), the next", x.card(0, 0), 3);
        Check.due("card(1, 0), the next", x.card(1, 0), 4);
        Check.due("card(2, 0), laid first", x.card(2, 0), 1);
        Check.due("card(2, 1), laid last", x.card(2, 1), 2);
    }
}
