import java.util.ArrayList;
import java.util.List;
import java.util.function.Supplier;

/** The sentences that name a boundary of promises 12 to 18: behind, won, lasts, first, again, exchange, cut. */
public final class EdgeGoesTests {
    /** The longest game that ends which was found (NOTES.md tells where it was looked for). */
    private static final String[] LONGEST = {"04", "010101", "0010010400"};
    private static final int LONGEST_MOVES = 686;
    /** The longest round which was found. */
    private static final String[] LONGEST_ROUND = {"22", "5500252", "252500252"};
    private static final int ROUND_MOVES = 420;
    /** Runs into a round that it does not begin in. */
    private static final String[] INTO_A_ROUND = {"33", "00010000", "0000030"};
    private static final String[][] GAMES = {LONGEST, LONGEST_ROUND, INTO_A_ROUND, Scenes.ENDLESS, {"00", "1", "0"}, {"00", "0", "1"},
        {"44", "000000002040", "20"}, {"45", "1150551", "1515150"},
        {"20", "342524244152350", "3"}, {"21", "0", "000000000001001"}, {"20", "200020000000041", "0"}, {"20", "12414340", "32002102"},
        {"00", "0000", "0000"}, {"54", "04204204", "53153153"}, {"24", "0012400", "3000051"}, {"52", "000000000000003", "0"},
        {"42", "1", "000000000000004"}, {"11", "5", "0000000004"}, {"53", "00000000000300", "2"}, {"00", "5", ""}, {"00", "", "5"}};

    private EdgeGoesTests() {
    }

    public static void main(String[] args) {
        behind();
        wonAndLasts();
        first();
        again();
        exchange();
        cut();
        Edge.end("EdgeGoesTests", 12, 18);
    }

    private static Supplier<BeggarPile> scene(String... game) {
        return () -> Scenes.dealt(game);
    }

    // ---- promise 12

    private static void behind() {
        Edge.test(12, "BAD: BEHIND m (0 .. 60) MOVES", () ->
                Edge.bounds(Scenes::stirred, "behind(#, 2)", 0, 60, (x, m) -> x.behind(m, 2)));
        Edge.test(12, "BAD: HAND 0 (0) .. DEBT (4)", () ->
                Edge.bounds(Scenes::stirred, "behind(9, #)", 0, 4, (x, what) -> x.behind(9, what)));
        Edge.test(12, "BEHIND 0 MOVES: as it is", () -> {
            behindNone(Scenes::stirred);
            behindNone(Scenes::sixteen);
            behindNone(Scenes::done);
            behindNone(Scenes::spent);
            behindNone(BeggarPile::new);
        });
        Edge.test(12, "BEHIND 1 .. 60 MOVES: as if they were laid", () -> {
            asLaid(Scenes::endless);
            asLaid(Scenes::stirred);
            asLaid(scene(LONGEST));
        });
        Edge.test(12, "no MOVE is done when it is DONE", EdgeGoesTests::behindTheEnd);
        Edge.test(12, "MOVES, TAKEN go beyond 9999 in them", EdgeGoesTests::beyond9999);
        Edge.test(12, "Nothing is changed by these", () -> {
            Edge.leavesAll(Scenes::stirred, "behind(60, 1)", x -> x.behind(60, 1), Scenes.done().count(1));
            Edge.leavesAll(Scenes::spent, "behind(60, 0)", x -> x.behind(60, 0), 1);
        });
    }

    private static void behindNone(Supplier<BeggarPile> scene) {
        for (int i = 0; i <= 4; i++) {
            int what = i;
            Edge.leavesAll(scene, "behind(0, " + what + ")", x -> x.behind(0, what), scene.get().count(what));
        }
    }

    private static void asLaid(Supplier<BeggarPile> scene) {
        for (int m = 1; m <= 60; m++) {
            BeggarPile x = scene.get();
            BeggarPile laid = scene.get();
            laid.lays(m);
            for (int what = 0; what <= 4; what++) {
                Check.due("behind(" + m + ", " + what + ")", x.behind(m, what), laid.count(what));
            }
        }
    }

    private static void behindTheEnd() {
        BeggarPile x = Scenes.stirred();
        BeggarPile done = Scenes.done();
        boolean differs = false;
        for (int what = 0; what <= 4; what++) {
            for (int m = 26; m <= 60; m++) {
                Check.due("behind(" + m + ", " + what + ")", x.behind(m, what), done.count(what));
            }
            differs = differs || x.behind(25, what) != done.count(what);
        }
        Check.holds("behind(25, ..) is not yet the end", differs);
        for (int what = 0; what <= 4; what++) {
            Check.due("behind(60, " + what + ") without cards", new BeggarPile().behind(60, what), 0);
        }
    }

    /** The endless game lies behind 9999 moves as it does behind 9: every question has the same answer. */
    private static void beyond9999() {
        List<Integer> far = answers(Scenes::spent);
        List<Integer> near = answers(() -> Scenes.at(9));
        for (int i = 0; i < near.size(); i++) {
            Check.due("the " + i + "-th question at 9999 moves", far.get(i), near.get(i));
        }
        Check.due("moves at 9999", Scenes.spent().count(5), 9999);
        Check.due("first(0) at 9999", Scenes.spent().first(0), 3);
        Check.due("again() at 9999", Scenes.spent().again(), 6);
        Check.holds("some of them are won", far.contains(0) && far.contains(1));
    }

    private static List<Integer> answers(Supplier<BeggarPile> scene) {
        List<Integer> told = new ArrayList<>();
        for (int what = 0; what <= 4; what++) {
            BeggarPile x = scene.get();
            for (int m = 0; m <= 60; m++) {
                told.add(x.behind(m, what));
            }
        }
        BeggarPile x = scene.get();
        told.add(x.won());
        told.add(x.lasts());
        told.add(x.first(0));
        told.add(x.first(1));
        told.add(x.again());
        for (int p = 0; p <= 1; p++) {
            for (int what = 0; what <= 1; what++) {
                told.add(x.exchange(p, what));
                told.add(x.cut(p, what));
            }
            for (int n = 0; n <= 5; n++) {
                x.luck(p, n);
                told.add((int) x.part(0));
                told.add((int) x.part(1));
            }
        }
        for (int k = -1; k <= 36; k++) {
            told.add(x.against(k));
        }
        told.add(x.evenings(4711, 30));
        return told;
    }

    // ---- promises 13 and 14

    private static void wonAndLasts() {
        Edge.test(13, "WON: which PLAYER has WON, it being DONE now", () -> {
            ends(BeggarPile::new, 1, 0);
            ends(scene("00", "", "3"), 1, 0);
            ends(Scenes::done, 0, 0);
            ends(() -> laid(1, "00", "3", ""), 0, 0);
        });
        Edge.test(14, "LASTS: behind how many MOVES (0 .. 2000) it is DONE first", () -> {
            ends(BeggarPile::new, 1, 0);
            ends(scene("00", "3", ""), 0, 1);
            ends(scene("00", "0", "0"), 1, 2);
            ends(scene("00", "1", "0"), 0, 3);
            ends(Scenes::stirred, 0, 26);
        });
        Edge.test(14, "LASTS within 2000 MOVES: the longest there is", EdgeGoesTests::theLongest);
        Edge.test(13, "WON: none", () -> {
            ends(Scenes::endless, BeggarPile.NONE, BeggarPile.NONE);
            ends(Scenes::spent, BeggarPile.NONE, BeggarPile.NONE);
        });
        Edge.test(14, "LASTS: none", () -> {
            ends(scene(INTO_A_ROUND), BeggarPile.NONE, BeggarPile.NONE);
            ends(scene(LONGEST_ROUND), BeggarPile.NONE, BeggarPile.NONE);
        });
        Edge.test(13, "WON, as it is played", () -> {
            for (String[] game : GAMES) {
                Check.due("won() of " + String.join(" ", game), Scenes.dealt(game).won(), ByPlay.end(Scenes.dealt(game))[ByPlay.WINNER]);
            }
        });
        Edge.test(14, "LASTS, as it is played", () -> {
            for (String[] game : GAMES) {
                Check.due("lasts() of " + String.join(" ", game), Scenes.dealt(game).lasts(), ByPlay.end(Scenes.dealt(game))[ByPlay.MOVES]);
            }
        });
    }

    private static BeggarPile laid(int moves, String... game) {
        BeggarPile x = Scenes.dealt(game);
        for (int left = moves; left > 0; left -= 60) {
            x.lays(Math.min(60, left));
        }
        return x;
    }

    private static void ends(Supplier<BeggarPile> scene, int winner, int moves) {
        Edge.leavesAll(scene, "won()", x -> x.won(), winner);
        Edge.leavesAll(scene, "lasts()", x -> x.lasts(), moves);
    }

    private static void theLongest() {
        int winner = ByPlay.end(Scenes.dealt(LONGEST))[ByPlay.WINNER];
        ends(scene(LONGEST), winner, LONGEST_MOVES);
        for (int moves = 0; moves <= LONGEST_MOVES; moves += 50) {
            BeggarPile x = laid(moves, LONGEST);
            Check.due("won() behind " + moves, x.won(), winner);
            Check.due("lasts() behind " + moves, x.lasts(), LONGEST_MOVES - moves);
        }
    }

    // ---- promise 15

    private static void first() {
        Edge.test(15, "BAD: behind how many MOVES (0), by whom (1)", () ->
                Edge.bounds(Scenes::stirred, "first(#)", 0, 1, (x, what) -> x.first(what)));
        Edge.test(15, "FIRST: behind how many MOVES (1 .. 200)", () -> {
            takenFirst(() -> laid(1, "00", "1", "0"), 1, 0);
            takenFirst(() -> laid(2, "00", "00", "1"), 1, 1);
            takenFirst(scene("00", "1", "0"), 2, 0);
            takenFirst(scene("00", "00", "1"), 3, 1);
            takenFirst(scene("00", "00000001", "00000000"), 16, 0);
            takenFirst(scene("00", "000000000", "0000002"), 16, 1);
            takenFirst(() -> laid(15, "00", "00000001", "00000000"), 1, 0);
            takenFirst(scene(Scenes.ENDLESS), 3, 1);
            takenFirst(() -> laid(3, Scenes.ENDLESS), 3, 0);
        });
        Edge.test(15, "FIRST: none", () -> {
            takenFirst(BeggarPile::new, BeggarPile.NONE, BeggarPile.NONE);
            takenFirst(scene("00", "00000000", "00000000"), BeggarPile.NONE, BeggarPile.NONE);
            takenFirst(scene("00", "00000001", "0000000"), BeggarPile.NONE, BeggarPile.NONE);
            takenFirst(scene("00", "4", "000"), BeggarPile.NONE, BeggarPile.NONE);
            takenFirst(Scenes::done, BeggarPile.NONE, BeggarPile.NONE);
        });
        Edge.test(15, "THE PILE is TAKEN first, as it is played", () -> {
            for (String[] game : GAMES) {
                BeggarPile x = Scenes.dealt(game);
                while (x.count(6) + x.count(7) == 0 && x.lays(1) == 1) {
                    Check.holds("first(0) is not behind it", x.count(2) > 0 || x.count(5) == Scenes.dealt(game).first(0));
                }
                boolean taken = x.count(6) + x.count(7) > 0;
                Check.due("first(0)", Scenes.dealt(game).first(0), taken ? x.count(5) : BeggarPile.NONE);
                Check.due("first(1)", Scenes.dealt(game).first(1), taken ? x.count(7) : BeggarPile.NONE);
            }
        });
    }

    private static void takenFirst(Supplier<BeggarPile> scene, int moves, int by) {
        Edge.leavesAll(scene, "first(0)", x -> x.first(0), moves);
        Edge.leavesAll(scene, "first(1)", x -> x.first(1), by);
    }

    // ---- promise 16

    private static void again() {
        Edge.test(16, "AGAIN: behind how many MOVES (1 .. 500)", () -> {
            Edge.leavesAll(Scenes::endless, "again()", x -> x.again(), 6);
            Edge.leavesAll(scene(LONGEST_ROUND), "again()", x -> x.again(), ROUND_MOVES);
            Edge.leavesAll(scene("44", "000000002040", "20"), "again()", x -> x.again(), 242);
            Edge.leavesAll(scene("45", "1150551", "1515150"), "again()", x -> x.again(), 392);
            for (int moves = 1; moves <= 12; moves++) {
                Check.due("again() behind " + moves, laid(moves, Scenes.ENDLESS).again(), 6);
            }
            for (int moves = 1; moves <= ROUND_MOVES; moves += 7) {
                Check.due("again() behind " + moves, laid(moves, LONGEST_ROUND).again(), ROUND_MOVES);
            }
        });
        Edge.test(16, "AGAIN: none", () -> {
            Edge.leavesAll(BeggarPile::new, "again()", x -> x.again(), BeggarPile.NONE);
            Edge.leavesAll(Scenes::done, "again()", x -> x.again(), BeggarPile.NONE);
            Edge.leavesAll(scene("00", "", "5"), "again()", x -> x.again(), BeggarPile.NONE);
            Edge.leavesAll(scene(LONGEST), "again()", x -> x.again(), BeggarPile.NONE);
        });
        Edge.test(16, "as now: not as later", EdgeGoesTests::roundNotFromHere);
        Edge.test(16, "HANDS, THE PILE, TURN, DEBT are all as now: not all but the TURN", EdgeGoesTests::allButTheTurn);
    }

    private static void roundNotFromHere() {
        Check.due("again()", Scenes.dealt(INTO_A_ROUND).again(), BeggarPile.NONE);
        Check.due("lasts()", Scenes.dealt(INTO_A_ROUND).lasts(), BeggarPile.NONE);
        BeggarPile x = laid(1000, INTO_A_ROUND);
        int round = x.again();
        Check.holds("again(), in the round", round > 0);
        String rows = Check.row(x, 0) + "/" + Check.row(x, 1) + "/" + Check.row(x, 2);
        x.lays(round);
        String then = Check.row(x, 0) + "/" + Check.row(x, 1) + "/" + Check.row(x, 2);
        Check.holds("it has come round: " + then, rows.equals(then));
    }

    private static void allButTheTurn() {
        String[] game = {"00", "010", "0010"};
        BeggarPile x = laid(7, game);
        Check.row(x, 0, game[1]);
        Check.row(x, 1, game[2]);
        Check.row(x, 2, "");
        Check.due("count(3)", x.count(3), 1);
        Check.due("again()", Scenes.dealt(game).again(), BeggarPile.NONE);
    }

    // ---- promise 17

    private static void exchange() {
        Edge.test(17, "BAD: a PLAYER; which (0), behind how many MOVES (1)", () -> {
            Edge.bounds(Scenes::stirred, "exchange(#, 0)", 0, 1, (x, p) -> x.exchange(p, 0));
            Edge.bounds(Scenes::stirred, "exchange(0, #)", 0, 1, (x, what) -> x.exchange(0, what));
            Edge.bounds(Scenes::stirred, "exchange(1, #)", 0, 1, (x, what) -> x.exchange(1, what));
        });
        Edge.test(17, "EXCHANGE: none", () -> {
            exchanged(BeggarPile::new, 0, BeggarPile.NONE, BeggarPile.NONE);
            exchanged(BeggarPile::new, 1, BeggarPile.NONE, BeggarPile.NONE);
            exchanged(scene("00", "5", ""), 0, BeggarPile.NONE, BeggarPile.NONE);
            exchanged(scene("00", "", "5"), 1, BeggarPile.NONE, BeggarPile.NONE);
            exchanged(Scenes::done, 0, BeggarPile.NONE, BeggarPile.NONE);
            exchanged(scene("00", "0", "0"), 0, BeggarPile.NONE, BeggarPile.NONE);
            exchanged(scene("00", "0", "1"), 1, BeggarPile.NONE, BeggarPile.NONE);
        });
        Edge.test(17, "100 i and j: PLACE i of p's HAND and j of the other's, the last ones", () -> {
            exchanged(scene("00", "0", "1"), 0, 0, 3);
            exchanged(scene("20", "342524244152350", "3"), 0, 1400, 2);
            exchanged(scene("21", "0", "000000000001001"), 0, 14, 31);
            exchanged(scene("20", "12414340", "32002102"), 0, 707, 13);
            Edge.leavesAll(scene("20", "200020000000041", "0"), "exchange(1, 0)", x -> x.exchange(1, 0), 14);
        });
        Edge.test(17, "of like ones the least", () -> {
            exchanged(scene("00", "0000", "0000"), 1, 0, 8);
            exchanged(scene("04", "300", "05"), 0, 101, 3);
            exchanged(scene("20", "3200", "0000"), 0, 200, 6);
            exchanged(scene("20", "05", "300"), 1, 101, 3);
            exchanged(scene("25", "0010", "2100"), 1, 102, 7);
        });
        Edge.test(17, "EXCHANGE, CUT: asked one behind the other, none behind one that is", EdgeGoesTests::oneBehindTheOther);
        Edge.test(17, "p WINS within 2000 MOVES soonest, as it is played", () -> {
            for (String[] game : GAMES) {
                exchangedAsPlayed(scene(game));
            }
            exchangedAsPlayed(Scenes::stirred);
            exchangedAsPlayed(() -> laid(100, LONGEST));
        });
    }

    /** Hand 0 wins by an exchange and by none of its cuts, hand 1 by no exchange and as it lies. */
    private static void oneBehindTheOther() {
        BeggarPile x = Scenes.dealt("00", "0", "1");
        for (int i = 0; i < 2; i++) {
            Check.due("exchange(0, 0)", x.exchange(0, 0), 0);
            Check.due("exchange(0, 1)", x.exchange(0, 1), 3);
            Check.due("exchange(1, 0)", x.exchange(1, 0), BeggarPile.NONE);
            Check.due("exchange(1, 1)", x.exchange(1, 1), BeggarPile.NONE);
            Check.due("cut(1, 0)", x.cut(1, 0), 0);
            Check.due("cut(1, 1)", x.cut(1, 1), 2);
            Check.due("cut(0, 0)", x.cut(0, 0), BeggarPile.NONE);
            Check.due("cut(0, 1)", x.cut(0, 1), BeggarPile.NONE);
        }
        for (String[] game : GAMES) {
            x = Scenes.dealt(game);
            for (int asked = 0; asked < 16; asked++) {
                int p = asked / 2 % 2;
                int what = asked % 2;
                boolean cut = asked / 4 % 2 == 0;
                int fresh = cut ? Scenes.dealt(game).cut(p, what) : Scenes.dealt(game).exchange(p, what);
                Check.due((cut ? "cut" : "exchange") + "(" + p + ", " + what + ")", cut ? x.cut(p, what) : x.exchange(p, what), fresh);
            }
        }
    }

    private static void exchanged(Supplier<BeggarPile> scene, int p, int which, int moves) {
        Edge.leavesAll(scene, "exchange(" + p + ", 0)", x -> x.exchange(p, 0), which);
        Edge.leavesAll(scene, "exchange(" + p + ", 1)", x -> x.exchange(p, 1), moves);
    }

    private static void exchangedAsPlayed(Supplier<BeggarPile> scene) {
        for (int p = 0; p <= 1; p++) {
            int[] best = ByPlay.exchange(scene, p);
            Check.due("exchange(" + p + ", 0)", scene.get().exchange(p, 0), best[0]);
            Check.due("exchange(" + p + ", 1)", scene.get().exchange(p, 1), best[1]);
        }
    }

    // ---- promise 18

    private static void cut() {
        Edge.test(18, "BAD: a PLAYER; how many (0), behind how many MOVES (1)", () -> {
            Edge.bounds(Scenes::stirred, "cut(#, 0)", 0, 1, (x, p) -> x.cut(p, 0));
            Edge.bounds(Scenes::stirred, "cut(0, #)", 0, 1, (x, what) -> x.cut(0, what));
            Edge.bounds(Scenes::stirred, "cut(1, #)", 0, 1, (x, what) -> x.cut(1, what));
        });
        Edge.test(18, "CUT: none, the HAND being empty, too", () -> {
            cutAt(BeggarPile::new, 0, BeggarPile.NONE, BeggarPile.NONE);
            cutAt(BeggarPile::new, 1, BeggarPile.NONE, BeggarPile.NONE);
            cutAt(scene("00", "", "5"), 0, BeggarPile.NONE, BeggarPile.NONE);
            cutAt(scene("00", "5", ""), 1, BeggarPile.NONE, BeggarPile.NONE);
            cutAt(scene("00", "0", "1"), 0, BeggarPile.NONE, BeggarPile.NONE);
            cutAt(Scenes::endless, 1, ByPlay.cut(Scenes.ENDLESS, 1)[0], ByPlay.cut(Scenes.ENDLESS, 1)[1]);
        });
        Edge.test(18, "how many CARDS (0 .. the HAND's less 1)", () -> {
            cutAt(scene("00", "5", ""), 0, 0, 1);
            cutAt(scene("00", "", "5"), 1, 0, 0);
            cutAt(scene("52", "000000000000003", "0"), 0, 14, 2);
            cutAt(scene("42", "1", "000000000000004"), 1, 14, 2);
            cutAt(scene("24", "50", "4"), 0, 1, 3);
            cutAt(() -> Scenes.dealt("00", "", "0123450123450123"), 1, 0, 0);
        });
        Edge.test(18, "of like ones the least", () -> {
            cutAt(scene("00", "1111", "0"), 0, 0, 3);
            cutAt(scene("42", "044", "0"), 0, 1, 2);
            cutAt(scene("55", "1013", "5"), 0, 1, 3);
            cutAt(scene("44", "2", "0353"), 1, 1, 2);
        });
        Edge.test(18, "let p WIN soonest likewise, as it is played", () -> {
            for (String[] game : GAMES) {
                for (int p = 0; p <= 1; p++) {
                    int[] best = ByPlay.cut(game, p);
                    Check.due("cut(" + p + ", 0) of " + String.join(" ", game), Scenes.dealt(game).cut(p, 0), best[0]);
                    Check.due("cut(" + p + ", 1) of " + String.join(" ", game), Scenes.dealt(game).cut(p, 1), best[1]);
                }
            }
        });
    }

    private static void cutAt(Supplier<BeggarPile> scene, int p, int cards, int moves) {
        Edge.leavesAll(scene, "cut(" + p + ", 0)", x -> x.cut(p, 0), cards);
        Edge.leavesAll(scene, "cut(" + p + ", 1)", x -> x.cut(p, 1), moves);
    }
}
