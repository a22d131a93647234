import java.util.List;
import java.util.function.Supplier;

/** The sentences that name a boundary of promises 19 to 28: note, mark, forget, is, look, kinds, ask, against, luck, evenings. */
public final class EdgeGuessTests {
    private static final int KINDS = 6;
    private static final int ALL = 63;
    /** Games with endless ones among their kinds, with few and with all pairs at rest, with empty hands. */
    private static final String[][] GAMES = {Scenes.ENDLESS, {"00", "020005", "02200"}, {"00", "020005", "02500"},
        {"24", "0012400", "3000051"}, {"05", "002", "1000"}, {"53", "00000000000300", "2"}, {"33", "00010000", "0000030"},
        {"01", "01030020", "00405001"}, {"00", "5", ""}, {"00", "", "5"}, {"00", "", ""}, {"12", "0", "0"}};

    private EdgeGuessTests() {
    }

    public static void main(String[] args) {
        note();
        mark();
        forget();
        is();
        look();
        kinds();
        ask();
        against();
        luck();
        evenings();
        Edge.end("EdgeGuessTests", 19, 28);
    }

    private static BeggarPile noted(int... numbers) {
        BeggarPile x = new BeggarPile();
        for (int i = 0; i + 1 < numbers.length; i += 2) {
            x.note(numbers[i], numbers[i + 1]);
        }
        return x;
    }

    private static BeggarPile marked(int... numbers) {
        BeggarPile x = new BeggarPile();
        for (int i = 0; i + 3 < numbers.length; i += 4) {
            x.mark(numbers[i], numbers[i + 1], numbers[i + 2], numbers[i + 3]);
        }
        return x;
    }

    private static int owed(int kind, int n) {
        return kind < 5 ? kind : new int[] {1, 2, 3}[n % 3];
    }

    // ---- promise 19

    private static void note() {
        Edge.test(19, "BAD: n-th (1 .. 16), x (0 .. 9)", () -> {
            Edge.bounds(Scenes::stirred, "note(#, 3)", 1, 16, (x, n) -> x.note(n, 3));
            Edge.bounds(Scenes::stirred, "note(3, #)", 0, 9, (x, owed) -> x.note(3, owed));
            Edge.bounds(BeggarPile::new, "note(1, #)", 0, 9, (x, owed) -> x.note(1, owed));
            Edge.bounds(BeggarPile::new, "note(16, #)", 0, 9, (x, owed) -> x.note(16, owed));
        });
        Edge.test(19, "NOTES 0 .. 5: how many there are; FULL: 6", () -> {
            BeggarPile x = new BeggarPile();
            for (int i = 1; i <= 6; i++) {
                Check.due("note(" + i + ", 0)", x.note(i, 0), i);
                Check.due("count(10)", x.count(10), i);
            }
            Check.due("note(7, 0)", x.note(7, 0), BeggarPile.FULL);
            Edge.full(Scenes::knowing, "note(1, 0)", y -> y.note(1, 0));
            Edge.full(Scenes::knowing, "note(16, 9)", y -> y.note(16, 9));
        });
        Edge.test(19, "the first of: BAD, FULL", () -> {
            Edge.bad(Scenes::knowing, "note(0, 0)", x -> x.note(0, 0));
            Edge.bad(Scenes::knowing, "note(17, 0)", x -> x.note(17, 0));
            Edge.bad(Scenes::knowing, "note(1, -1)", x -> x.note(1, -1));
            Edge.bad(Scenes::knowing, "note(1, 10)", x -> x.note(1, 10));
        });
        Edge.test(19, "MARKS are no NOTES", () -> {
            BeggarPile x = new BeggarPile();
            Scenes.fillMarks(x);
            Check.due("note(1, 1), marks being 6", x.note(1, 1), 1);
        });
    }

    // ---- promise 20

    private static void mark() {
        Edge.test(20, "BAD: a PLAYER; THE PILE of n (1 .. 16); x (0 .. 15)", () -> {
            Edge.bounds(Scenes::stirred, "mark(#, 3, 0, 0)", 0, 1, (x, p) -> x.mark(p, 3, 0, 0));
            Edge.bounds(Scenes::stirred, "mark(0, #, 0, 0)", 1, 16, (x, n) -> x.mark(0, n, 0, 0));
            Edge.bounds(Scenes::stirred, "mark(1, 16, 0, #)", 0, 15, (x, card) -> x.mark(1, 16, 0, card));
            Edge.bounds(Scenes::stirred, "mark(1, 1, 0, #)", 0, 15, (x, card) -> x.mark(1, 1, 0, card));
        });
        Edge.test(20, "BAD: k-th (0 .. n less 1)", () -> {
            for (int size = 1; size <= 16; size++) {
                int n = size;
                Edge.bounds(Scenes::stirred, "mark(0, " + n + ", #, 0)", 0, n - 1, (x, k) -> x.mark(0, n, k, 0));
            }
            Edge.bad(Scenes::stirred, "mark(0, 0, -1, 0)", x -> x.mark(0, 0, -1, 0));
            Edge.bad(Scenes::stirred, "mark(0, MIN, MAX, 0)", x -> x.mark(0, Integer.MIN_VALUE, Integer.MAX_VALUE, 0));
        });
        Edge.test(20, "MARKS 0 .. 5: how many there are; FULL: 6, of both PLAYERS together", EdgeGuessTests::sixMarks);
        Edge.test(20, "the first of: BAD, FULL", () -> {
            int[][] wrong = {{2, 1, 0, 0}, {-1, 1, 0, 0}, {0, 0, 0, 0}, {0, 17, 0, 0}, {0, 1, 1, 0}, {0, 1, -1, 0}, {0, 1, 0, 16}, {0, 1, 0, -1}};
            for (int[] w : wrong) {
                Edge.bad(Scenes::knowing, "mark(" + w[0] + ", " + w[1] + ", " + w[2] + ", " + w[3] + ")", x -> x.mark(w[0], w[1], w[2], w[3]));
            }
        });
        Edge.test(20, "NOTES are no MARKS", () -> {
            BeggarPile x = new BeggarPile();
            Scenes.fillNotes(x);
            Check.due("mark(0, 1, 0, 0), notes being 6", x.mark(0, 1, 0, 0), 1);
        });
    }

    private static void sixMarks() {
        for (int ofZero = 0; ofZero <= 6; ofZero++) {
            BeggarPile x = new BeggarPile();
            for (int i = 0; i < 6; i++) {
                Check.due("mark", x.mark(i < ofZero ? 0 : 1, 3, 0, 0), i + 1);
                Check.due("count(11)", x.count(11), i + 1);
            }
            Check.due("a seventh of 0", x.mark(0, 3, 0, 0), BeggarPile.FULL);
            Check.due("a seventh of 1", x.mark(1, 3, 0, 0), BeggarPile.FULL);
        }
        Edge.full(Scenes::knowing, "mark(0, 1, 0, 0)", x -> x.mark(0, 1, 0, 0));
        Edge.full(Scenes::knowing, "mark(1, 16, 15, 15)", x -> x.mark(1, 16, 15, 15));
    }

    // ---- promise 21

    private static void forget() {
        Edge.test(21, "BAD: NOTES (0), MARKS (1)", () -> Edge.bounds(Scenes::stirred, "forget(#)", 0, 1, (x, what) -> x.forget(what)));
        Edge.test(21, "how many there were", () -> {
            for (int had = 0; had <= 6; had++) {
                BeggarPile x = new BeggarPile();
                for (int i = 0; i < had; i++) {
                    x.note(1, 9);
                    x.mark(0, 1, 0, 9);
                }
                Check.due("forget(0)", x.forget(0), had);
                Check.due("count(11)", x.count(11), had);
                Check.due("forget(0) again", x.forget(0), 0);
                Check.due("forget(1)", x.forget(1), had);
                Check.due("forget(1) again", x.forget(1), 0);
                Check.due("is()", x.is(), ALL);
                Check.due("kinds(0)", x.kinds(0), ALL);
            }
        });
        Edge.test(21, "No NOTES, no MARKS: FULL no more", () -> {
            BeggarPile x = Scenes.knowing();
            Check.due("note(1, 1)", x.note(1, 1), BeggarPile.FULL);
            Check.due("forget(0)", x.forget(0), 6);
            Check.due("mark(0, 1, 0, 0)", x.mark(0, 1, 0, 0), BeggarPile.FULL);
            Check.due("note(1, 1)", x.note(1, 1), 1);
            Check.due("forget(1)", x.forget(1), 6);
            Check.due("mark(0, 1, 0, 0)", x.mark(0, 1, 0, 0), 1);
            Check.due("count(10)", x.count(10), 1);
        });
        Edge.test(21, "No NOTES (0), MARKS (1), and nothing else", () ->
                Edge.leavesAll(Scenes::stirred, "forget(0), noted again", x -> x.forget(0) + x.note(4, 2) + x.note(5, 3), 5));
    }

    // ---- promise 22

    private static void is() {
        Edge.test(22, "IS, no NOTES: all KINDS", () -> Edge.leavesAll(BeggarPile::new, "is()", x -> x.is(), ALL));
        Edge.test(22, "KINDS (bits) by which all NOTES are so: n 1 .. 16, x 0 .. 9", () -> {
            for (int n = 1; n <= 16; n++) {
                for (int owed = 0; owed <= 9; owed++) {
                    int bits = 0;
                    for (int kind = 0; kind < KINDS; kind++) {
                        bits |= owed(kind, n) == owed ? 1 << kind : 0;
                    }
                    Check.due("is() by note(" + n + ", " + owed + ")", noted(n, owed).is(), bits);
                }
            }
        });
        Edge.test(22, "all NOTES: the first of six, the last of six", () -> {
            Edge.leavesAll(() -> noted(1, 2, 2, 3, 3, 1, 4, 2, 5, 3, 6, 1), "is()", x -> x.is(), 32);
            Edge.leavesAll(() -> noted(1, 1, 2, 3, 3, 1, 4, 2, 5, 3, 6, 1), "is()", x -> x.is(), 0);
            Edge.leavesAll(() -> noted(1, 2, 2, 3, 3, 1, 4, 2, 5, 3, 6, 2), "is()", x -> x.is(), 0);
            Edge.leavesAll(() -> noted(16, 2, 16, 2, 16, 2, 16, 2, 16, 2, 15, 2), "is()", x -> x.is(), 4);
            Edge.leavesAll(() -> noted(16, 2, 16, 2, 16, 2, 16, 2, 16, 2, 15, 1), "is()", x -> x.is(), 32);
        });
    }

    // ---- promise 23

    private static void look() {
        Edge.test(23, "LOOK: n (1 .. 16), of like ones the least", () -> {
            Edge.leavesAll(BeggarPile::new, "look(), all KINDS", x -> x.look(), 1);
            Edge.leavesAll(() -> noted(3, 1), "look(), KNAVE and JOKER", x -> x.look(), 1);
            Edge.leavesAll(() -> noted(1, 2), "look(), QUEEN and JOKER", x -> x.look(), 2);
            Edge.leavesAll(() -> noted(2, 3), "look(), KING and JOKER", x -> x.look(), 1);
            for (int kind = 0; kind < KINDS; kind++) {
                int owed = kind;
                Edge.leavesAll(() -> noted(1, owed(owed, 1), 2, owed(owed, 2)), "look(), one KIND", x -> x.look(), 1);
            }
        });
        Edge.test(23, "LOOK: none: no KIND", () -> {
            Edge.leavesAll(() -> noted(1, 9), "look()", x -> x.look(), BeggarPile.NONE);
            Edge.leavesAll(() -> noted(1, 1, 1, 2), "look()", x -> x.look(), BeggarPile.NONE);
            BeggarPile x = noted(1, 5);
            x.forget(0);
            Check.due("look(), no NOTES", x.look(), 1);
        });
    }

    // ---- promise 24

    private static void kinds() {
        Edge.test(24, "BAD: a PLAYER", () -> Edge.bounds(Scenes::stirred, "kinds(#)", 0, 1, (x, p) -> x.kinds(p)));
        Edge.test(24, "WHAT, no MARKS of that one: all KINDS", () -> {
            Edge.leavesAll(BeggarPile::new, "kinds(0)", x -> x.kinds(0), ALL);
            Edge.leavesAll(() -> marked(0, 1, 0, 15), "kinds(1)", x -> x.kinds(1), ALL);
            Edge.leavesAll(() -> marked(0, 1, 0, 15), "kinds(0)", x -> x.kinds(0), 0);
            Edge.leavesAll(() -> marked(1, 1, 0, 15), "kinds(0)", x -> x.kinds(0), ALL);
            Edge.leavesAll(() -> marked(1, 1, 0, 15), "kinds(1)", x -> x.kinds(1), 0);
        });
        Edge.test(24, "KINDS (bits) by which all MARKS of one are so: n 1 .. 16, k 0 .. n less 1, x 0 .. 15", () -> {
            for (int n = 1; n <= 16; n++) {
                for (int k = 0; k < n; k++) {
                    for (int card = 0; card <= 15; card++) {
                        Check.due("kinds(1) by mark(1, " + n + ", " + k + ", " + card + ")", marked(1, n, k, card).kinds(1), bringing(n, k, card));
                    }
                }
            }
        });
        Edge.test(24, "all MARKS: the first of six, the last of six", () -> {
            Edge.leavesAll(() -> marked(0, 6, 0, 5, 0, 6, 1, 4, 0, 6, 2, 3, 0, 6, 3, 2, 0, 6, 4, 1, 0, 6, 5, 0), "kinds(0)", x -> x.kinds(0), 2);
            Edge.leavesAll(() -> marked(0, 6, 0, 4, 0, 6, 1, 4, 0, 6, 2, 3, 0, 6, 3, 2, 0, 6, 4, 1, 0, 6, 5, 0), "kinds(0)", x -> x.kinds(0), 0);
            Edge.leavesAll(() -> marked(0, 6, 0, 5, 0, 6, 1, 4, 0, 6, 2, 3, 0, 6, 3, 2, 0, 6, 4, 1, 0, 6, 5, 1), "kinds(0)", x -> x.kinds(0), 0);
            Edge.leavesAll(() -> marked(0, 6, 0, 5, 0, 6, 1, 4, 0, 6, 2, 3, 0, 6, 3, 2, 0, 6, 4, 1, 1, 6, 5, 1), "kinds(0)", x -> x.kinds(0), 2);
        });
    }

    /** The kinds by which that card comes k-th. */
    private static int bringing(int n, int k, int card) {
        int bits = 0;
        for (int kind = 0; kind < KINDS; kind++) {
            bits |= EdgeLayTests.order(kind, n)[k] == card ? 1 << kind : 0;
        }
        return bits;
    }

    // ---- promise 25

    private static void ask() {
        Edge.test(25, "BAD: a PLAYER", () -> Edge.bounds(Scenes::stirred, "ask(#)", 0, 1, (x, p) -> x.ask(p)));
        Edge.test(25, "ASK: 100 n and k, of like ones the least", () -> {
            Edge.leavesAll(BeggarPile::new, "ask(0), all KINDS", x -> x.ask(0), 802);
            Edge.leavesAll(BeggarPile::new, "ask(1), all KINDS", x -> x.ask(1), 802);
            Edge.leavesAll(() -> marked(0, 6, 0, 5, 0, 6, 1, 4), "ask(0), one KIND", x -> x.ask(0), 100);
            Edge.leavesAll(() -> marked(0, 4, 1, 2), "ask(0), TURNER and STEPPER", x -> x.ask(0), 200);
            Edge.leavesAll(() -> marked(1, 1, 0, 0), "ask(1), all KINDS still", x -> x.ask(1), 802);
        });
        Edge.test(25, "ASK: none: no KIND", () -> {
            Edge.leavesAll(() -> marked(0, 1, 0, 1), "ask(0)", x -> x.ask(0), BeggarPile.NONE);
            Edge.leavesAll(() -> marked(0, 1, 0, 1), "ask(1)", x -> x.ask(1), 802);
            Edge.leavesAll(() -> marked(1, 16, 15, 1), "ask(1)", x -> x.ask(1), BeggarPile.NONE);
        });
        Edge.test(25, "the most of these KINDS by which the same comes are fewest (n 1 .. 16, k 0 .. n less 1)", () -> {
            for (int n = 1; n <= 16; n++) {
                for (int k = 0; k < n; k++) {
                    for (int card = 0; card < n; card++) {
                        Check.due("ask(0) by mark(0, " + n + ", " + k + ", " + card + ")", marked(0, n, k, card).ask(0), bestAsk(bringing(n, k, card)));
                    }
                }
            }
        });
    }

    private static int bestAsk(int bits) {
        int best = BeggarPile.NONE;
        int fewest = KINDS + 1;
        for (int n = 16; n >= 1; n--) {
            for (int k = n - 1; k >= 0; k--) {
                int most = 0;
                for (int card = 0; card < n; card++) {
                    most = Math.max(most, Integer.bitCount(bits & bringing(n, k, card)));
                }
                if (bits != 0 && most <= fewest) {
                    fewest = most;
                    best = 100 * n + k;
                }
            }
        }
        return best;
    }

    // ---- promise 26

    private static void against() {
        Edge.test(26, "BAD: -10", () -> {
            int[] wrong = {-2, -3, -5, -10, Integer.MIN_VALUE};
            for (int k : wrong) {
                Edge.refused(Scenes::stirred, "against(" + k + ")", x -> x.against(k), -10, Edge.BAD);
            }
        });
        Edge.test(26, "how many (k = NONE), the k-th; -5: not so many", () -> {
            for (String[] game : GAMES) {
                resting(() -> Scenes.dealt(game));
            }
            resting(Scenes::stirred);
            resting(Scenes::done);
            resting(Scenes::sixteen);
        });
        Edge.test(26, "how many: none, all, and -5 behind them", () -> {
            Edge.leavesAll(BeggarPile::new, "against(-1)", x -> x.against(BeggarPile.NONE), 36);
            Edge.leavesAll(BeggarPile::new, "against(0)", x -> x.against(0), 0);
            Edge.leavesAll(BeggarPile::new, "against(35)", x -> x.against(35), 55);
            Edge.leavesAll(BeggarPile::new, "against(36)", x -> x.against(36), -5);
            Edge.leavesAll(BeggarPile::new, "against(MAX)", x -> x.against(Integer.MAX_VALUE), -5);
            Supplier<BeggarPile> none = () -> Scenes.dealt("05", "002", "1000");
            Edge.leavesAll(none, "against(-1)", x -> x.against(-1), 0);
            Edge.leavesAll(none, "against(0)", x -> x.against(0), -5);
            Supplier<BeggarPile> one = () -> Scenes.dealt("00", "020005", "02200");
            Edge.leavesAll(one, "against(-1)", x -> x.against(-1), 1);
            Edge.leavesAll(one, "against(0)", x -> x.against(0), 21);
            Edge.leavesAll(one, "against(1)", x -> x.against(1), -5);
        });
    }

    private static void resting(Supplier<BeggarPile> scene) {
        List<Integer> pairs = ByPlay.against(scene);
        BeggarPile x = scene.get();
        Check.due("against(-1)", x.against(-1), pairs.size());
        for (int k = 0; k < pairs.size(); k++) {
            Check.due("against(" + k + ")", x.against(k), pairs.get(k));
        }
        Check.due("against(" + pairs.size() + ")", x.against(pairs.size()), -5);
    }

    // ---- promise 27

    private static void luck() {
        Edge.test(27, "BAD: a PLAYER; n (0 .. 5)", () -> {
            Edge.bounds(Scenes::stirred, "luck(#, 2)", 0, 1, (x, p) -> x.luck(p, 2));
            Edge.bounds(Scenes::stirred, "luck(0, #)", 0, 5, (x, n) -> x.luck(0, n));
            Edge.bounds(Scenes::stirred, "luck(1, #)", 0, 5, (x, n) -> x.luck(1, n));
        });
        Edge.test(27, "LUCK is THE FRACTION, and nothing else: 1", () ->
                Edge.leavesAll(Scenes::stirred, "luck(1, 5), luck(0, 3)", x -> x.luck(1, 5) + x.luck(0, 3), 2));
        Edge.test(27, "the first n CARDS of the HAND (0 .. 5) lie in any order", () -> {
            String[] game = {"31", "5420110", "055052"};
            for (int p = 0; p <= 1; p++) {
                for (int n = 0; n <= 5; n++) {
                    chance(game, p, n);
                }
            }
            chance(new String[] {"24", "0012400", "3000051"}, 1, 5);
        });
        Edge.test(27, "(all, if it has fewer)", () -> {
            for (int cards = 0; cards <= 6; cards++) {
                String hand = "041300".substring(0, cards);
                for (int n = 0; n <= 5; n++) {
                    chance(new String[] {"40", hand, "0021"}, 0, n);
                    chance(new String[] {"04", "0021", hand}, 1, n);
                }
            }
        });
        Edge.test(27, "(CARDS of one KIND being told apart)", () -> {
            chance(new String[] {"00", "001", "100"}, 0, 3);
            chance(new String[] {"00", "00011", "1000"}, 0, 5);
        });
        Edge.test(27, "the chance to have WON within 2000 MOVES: endless ones are not", () -> {
            fraction(Scenes.endless(), 0, 0, 0, 1);
            fraction(Scenes.endless(), 1, 0, 0, 1);
            chance(Scenes.ENDLESS, 0, 3);
            chance(Scenes.ENDLESS, 1, 3);
        });
        Edge.test(27, "THE FRACTION in lowest terms, below above 0", () -> {
            fraction(Scenes.dealt("31", "5420110", "055052"), 0, 5, 119, 120);
            fraction(Scenes.dealt("45", "05310", "0213104"), 0, 5, 1, 60);
            fraction(Scenes.dealt("00", "01", "01"), 0, 2, 1, 2);
            fraction(Scenes.dealt("00", "00", "3"), 0, 5, 0, 1);
            fraction(Scenes.dealt("00", "43", "0"), 0, 5, 1, 1);
            fraction(new BeggarPile(), 0, 5, 0, 1);
            fraction(new BeggarPile(), 1, 5, 1, 1);
            fraction(Scenes.done(), 1, 5, 0, 1);
            fraction(Scenes.done(), 0, 5, 1, 1);
        });
    }

    private static void fraction(BeggarPile x, int p, int n, long above, long below) {
        Check.due("luck(" + p + ", " + n + ")", x.luck(p, n), 1);
        Check.due("part(0)", x.part(0), above);
        Check.due("part(1)", x.part(1), below);
    }

    private static void chance(String[] game, int p, int n) {
        long[] won = ByPlay.luck(game, p, n);
        long common = won[1];
        while (won[0] % common != 0 || won[1] % common != 0) {
            common--;
        }
        fraction(Scenes.dealt(game), p, n, won[0] / common, won[1] / common);
    }

    // ---- promise 28

    private static void evenings() {
        Edge.test(28, "BAD: a SEED (0 .. 999999), n (0 .. 30)", () -> {
            Edge.bounds(Scenes::stirred, "evenings(#, 3)", 0, 999999, (x, seed) -> x.evenings(seed, 3));
            Edge.bounds(Scenes::stirred, "evenings(5, #)", 0, 30, (x, n) -> x.evenings(5, n));
            Edge.bad(Scenes::stirred, "evenings(1000000, 31)", x -> x.evenings(1000000, 31));
        });
        Edge.test(28, "n (0 .. 30), SEED (0 .. 999999): how often PLAYER 0 has WON", () -> {
            int[] seeds = {0, 1, 2, 31337, 999998, 999999};
            String[][] games = {{"24", "0012400", "3000051"}, {"00", "01", "01"}, {"01", "01030020", "00405001"}, {"33", "00010000", "0000030"}};
            for (String[] game : games) {
                for (int seed : seeds) {
                    for (int n = 0; n <= 30; n += n == 1 ? 28 : 1) {
                        Check.due("evenings(" + seed + ", " + n + ")", Scenes.dealt(game).evenings(seed, n), ByPlay.evenings(game, seed, n));
                    }
                }
            }
        });
        Edge.test(28, "X by 65536 (cut), X by 1048576 (cut): X just at, just below a multiple, at its least, its most", () -> {
            int[] seeds = {42627, 47902, 501379, 899870, 241, 959, 0, 518020};
            String[][] games = {{"00", "01", "01"}, {"24", "0012400", "3000051"}};
            for (String[] game : games) {
                for (int seed : seeds) {
                    Check.due("evenings(" + seed + ", 1)", Scenes.dealt(game).evenings(seed, 1), ByPlay.evenings(game, seed, 1));
                }
            }
        });
        Edge.test(28, "(an empty one stays)", () -> {
            Edge.leavesAll(BeggarPile::new, "evenings(7, 30)", x -> x.evenings(7, 30), 0);
            Edge.leavesAll(() -> Scenes.dealt("00", "0123", ""), "evenings(7, 30)", x -> x.evenings(7, 30), 30);
            Edge.leavesAll(() -> Scenes.dealt("00", "", "0123"), "evenings(7, 30)", x -> x.evenings(7, 30), 0);
            Edge.leavesAll(Scenes::done, "evenings(999999, 30)", x -> x.evenings(999999, 30), 30);
        });
        Edge.test(28, "Nothing is changed by these", () -> {
            Edge.leavesAll(Scenes::stirred, "evenings(0, 0)", x -> x.evenings(0, 0), 0);
            Edge.leavesAll(Scenes::sixteen, "evenings(5, 30)", x -> x.evenings(5, 30), Scenes.sixteen().evenings(5, 30));
        });
    }
}
