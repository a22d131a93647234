/** Promises 1 to 7: a new object, game, player, deals, type, clear, read. */
public final class GameTests {
    /** Leaves nothing as at first: each has taken the pile, there are cards in it, player 1 owes 3. */
    private static final String STIRRED = "game 1 2;hand 0 1 0 0 0 3;hand 1 0 1 0 0;lay 8;";

    private GameTests() {
    }

    public static void main(String[] args) {
        aNewObject();
        game();
        gameRefused();
        player();
        deals();
        dealsRefused();
        typeAndClear();
        readTakesThePlaceOfAllBut();
        readRight();
        readFaults();
        readFaultChangesNothing();
        Check.end("GameTests");
    }

    private static void aNewObject() {
        BeggarPile x = new BeggarPile();
        for (int what = 0; what <= 13; what++) {
            Check.due("new: count(" + what + ")", x.count(what), 0);
        }
        Check.due("new: part(0)", x.part(0), 0);
        Check.due("new: part(1)", x.part(1), 1);
        for (int what = 0; what <= 2; what++) {
            Check.due("new: status(" + what + ")", x.status(what), 0);
        }
        Check.due("new: undo()", x.undo(), BeggarPile.NO);
        Check.due("new: from(0)", x.from(0), BeggarPile.NO);
        Check.due("new: is()", x.is(), 63);
        Check.due("new: kinds(1)", x.kinds(1), 63);
    }

    private static void game() {
        BeggarPile x = Check.told(STIRRED);
        x.note(1, 1);
        x.mark(0, 2, 1, 1);
        x.lays(1);
        x.luck(0, 1);
        x.image(1);
        long above = x.part(0);
        int[] stirred = {2, 3, 4, 1, 3, 9, 1, 1, 1, 2, 1, 1, 1};
        for (int what = 0; what <= 12; what++) {
            Check.due("ahead of game: count(" + what + ")", x.count(what), stirred[what]);
        }
        Check.due("game(3, 4) with cards in hands and pile", x.game(3, 4), 9);
        for (int what = 0; what <= 12; what++) {
            Check.due("behind game: count(" + what + ")", x.count(what), what == 8 ? 3 : what == 9 ? 4 : 0);
        }
        Check.due("game leaves the text", x.count(13), STIRRED.length());
        Check.due("game leaves the fraction", x.part(0), above);
        Check.due("game leaves images", x.from(1), 1);
        Check.due("the image", x.count(5), 9);
    }

    private static void gameRefused() {
        BeggarPile x = Check.told("game 1 2;hand 0 1;hand 1 0;");
        long before = x.digest();
        int[][] wrong = {{-1, 0}, {6, 0}, {0, -1}, {0, 6}, {Integer.MIN_VALUE, Integer.MAX_VALUE}};
        for (int i = 0; i < wrong.length; i++) {
            Check.due("game refused", x.game(wrong[i][0], wrong[i][1]), BeggarPile.BAD);
            Check.due("player refused", x.player(wrong[i][0], wrong[i][1]), BeggarPile.BAD);
        }
        Check.due("player(2, 0)", x.player(2, 0), BeggarPile.BAD);
        Check.due("refused: all stays", x.digest(), before);
        Check.due("status(0)", x.status(0), 11);
    }

    private static void player() {
        BeggarPile x = Check.told("game 1 2;hand 0 1 0;hand 1 0 0;");
        x.lays(1);
        Check.due("count(12) ahead", x.count(12), 1);
        Check.due("player(0, 5)", x.player(0, 5), 1);
        Check.due("player(1, 0)", x.player(1, 0), 2);
        Check.due("player(0, 4)", x.player(0, 4), 5);
        Check.due("count(8)", x.count(8), 4);
        Check.due("count(9)", x.count(9), 0);
        Check.due("behind a player told none may be undone", x.undo(), BeggarPile.NO);
        Check.due("cards stay", x.count(0) + x.count(1) + x.count(2), 4);
    }

    private static void deals() {
        BeggarPile x = new BeggarPile();
        for (int kind = 0; kind < 6; kind++) {
            Check.due("deals(1, " + kind + ")", x.deals(1, kind), kind + 1);
        }
        Check.due("deals(0, 3)", x.deals(0, 3), 1);
        Check.row(x, 0, "3");
        Check.row(x, 1, "012345");
        Check.row(x, 2, "");
        x.lays(1);
        Check.due("deals(0, 2) behind a laying", x.deals(0, 2), 1);
        Check.due("behind a card dealt none may be undone", x.undo(), BeggarPile.NO);
        Check.due("the turn stays", x.count(3), 1);
        Check.due("the debt stays", x.count(4), 3);
    }

    private static void dealsRefused() {
        BeggarPile x = new BeggarPile();
        Check.due("deals(-1, 0)", x.deals(-1, 0), BeggarPile.BAD);
        Check.due("deals(2, 0)", x.deals(2, 0), BeggarPile.BAD);
        Check.due("deals(0, -1)", x.deals(0, -1), BeggarPile.BAD);
        Check.due("deals(0, 6)", x.deals(0, 6), BeggarPile.BAD);
        for (int i = 0; i < 16; i++) {
            Check.due("deals(0, 0)", x.deals(0, 0), i + 1);
        }
        Check.due("a 17th card", x.deals(1, 0), BeggarPile.FULL);
        x.lays(1);
        Check.due("a 17th card, one being in the pile", x.deals(1, 0), BeggarPile.FULL);
        Check.due("a refused one lets undo be", x.count(12), 1);
        Check.due("bad comes ahead of full", x.deals(1, 6), BeggarPile.BAD);
        Check.due("status(0)", x.status(0), 5);
        Check.due("status(1)", x.status(1), 0);
        Check.due("status(2)", x.status(2), 2);
    }

    private static void typeAndClear() {
        BeggarPile x = new BeggarPile();
        Check.due("type(-1)", x.type(-1), BeggarPile.BAD);
        Check.due("type(128)", x.type(128), BeggarPile.BAD);
        for (int i = 0; i < 150; i++) {
            Check.due("type", x.type(i % 128), i + 1);
        }
        Check.due("a 151st byte", x.type(32), BeggarPile.FULL);
        Check.due("bad comes ahead of full", x.type(256), BeggarPile.BAD);
        Check.due("count(13)", x.count(13), 150);
        Check.due("clear()", x.clear(), 150);
        Check.due("clear() again", x.clear(), 0);
        Check.due("count(13)", x.count(13), 0);
        Check.due("type(127)", x.type(127), 1);
    }

    private static void readTakesThePlaceOfAllBut() {
        BeggarPile x = Check.told(STIRRED);
        x.lays(1);
        Check.write(x, STIRRED + "lay 1;");
        Check.due("read()", x.read(), 5);
        Check.write(x, "game 0 0;hand 0 1;hand 1 0;");
        Check.due("read()", x.read(), 3);
        for (int what = 2; what <= 12; what++) {
            Check.due("nothing of the one before: count(" + what + ")", x.count(what), 0);
        }
        x.image(0);
        x.note(1, 1);
        x.mark(0, 1, 0, 0);
        x.lays(3);
        x.luck(0, 1);
        x.lays(61);
        Check.write(x, "game 5 4; hand 1 2 2;");
        Check.due("read()", x.read(), 2);
        Check.counts(x, 0, 2, 0, 0, 0, 0, 0, 0, 5, 4, 0, 0, 0, 21);
        Check.due("the fraction stays", x.part(0), 1);
        Check.due("status stays", x.status(0), 1);
        Check.due("images stay", x.from(0), 1);
        Check.row(x, 0, "1");
    }

    private static void readRight() {
        right("game 0 0;", 1, "", "", "");
        right("  game  00 05 ;  ", 1, "", "", "");
        right("game 1 0;lay 99;", 2, "", "", "");
        right("game0 0;hand0 0 1 2 3 4 5;lay1;", 3, "12345", "", "0");
        right("game 0 0;hand 1 0 0 0 0 0 0 0 0 1;hand 1 2;", 3, "", "0000000012", "");
        right("game 0 0;hand 0 1 0;hand 1 0 0;lay 2;hand 0 5;", 5, "0105", "0", "");
        right("game 0 1;hand 0 0 0;hand 1 1 4;lay 3;", 4, "", "4010", "");
        right("game 0 0;hand 0 0 0 0 0 0 0 0 0;hand 1 0 0 0 0 0 0 0 0;lay 1;", 4, "0000000", "00000000", "0");
        right("game 0 0;hand 0 1;hand 1 0;lay 99;lay 1;", 5, "0", "", "1");
        right("game 0 0;hand 0 0 0 0 0 0 0 0 0;hand 1 0 0 0 0 0 0 0 0;lay 12;", 4, "00", "00", "000000000000");
    }

    private static void right(String text, int items, String zero, String one, String pile) {
        BeggarPile x = new BeggarPile();
        Check.write(x, text);
        Check.due("read of '" + text + "'", x.read(), items);
        Check.row(x, 0, zero);
        Check.row(x, 1, one);
        Check.row(x, 2, pile);
    }

    private static void readFaults() {
        fault("", 0);
        fault("   ", 3);
        fault("game", 4);
        fault("game 0", 6);
        fault("game 0 0", 8);
        fault("game 0 0 ", 9);
        fault("game 0 0;hand", 13);
        fault("game 0 0;hand 1", 15);
        fault("game 0 0;hand 1 5", 17);
        fault("game 0 0;lay", 12);
        fault("game 0 0;lay 7", 14);
        fault("gam 0 0;", 0);
        fault("gamee 0 0;", 0);
        fault("name 0 0;", 0);
        fault("gama 0 0;", 0);
        fault("game 0 0;land 0 1;", 9);
        fault("game 0 0;may 1;", 9);
        fault("game 0 0;handz 0 1;", 9);
        fault("game 0 0;hand{ 0 1;", 13);
        fault("game 0 0;hand` 0 1;", 13);
        fault("game 0 0;lay 1:;", 14);
        fault("game 0 0;lay 1/;", 14);
        fault(" Game 0 0;", 1);
        fault("gaMe 0 0;", 0);
        fault("hand 0 1;game 0 0;", 0);
        fault("lay 1;", 0);
        fault(";game 0 0;", 0);
        fault("0", 0);
        fault("game 6 0;", 5);
        fault("game 0 6;", 7);
        fault("game 00;", 7);
        fault("game 0 000;", 7);
        fault("game 0 12345678901234567890;", 7);
        fault("game 0 0 0;", 9);
        fault("game 0;", 6);
        fault("game ; ;", 5);
        fault("game 0 0\t;", 8);
        fault("game 0 -1;", 7);
        fault("game 0 0;;", 9);
        fault("game 0 0;game 0 0;", 9);
        fault("game 0 0;play 0 0;", 9);
        fault("game 0 0;4", 9);
        fault("game 0 0;hand;", 13);
        fault("game 0 0;hand 2 0;", 14);
        fault("game 0 0;hand 0;", 15);
        fault("game 0 0;hand 0 6;", 16);
        fault("game 0 0;hand 0 1 lay 1;", 18);
        fault("game 0 0;hand 0 1lay 1;", 17);
        fault("game 0 0;hand 0 0 0 0 0 0 0 0 0 0 0;", 34);
        fault("game 0 0;hand 0 0 0 0 0 0 0 0 0 0 x;", 34);
        fault("game 0 0;hand 0 0 0 0 0 0 0 0 0;hand 1 0 0 0 0 0 0 0 0 0;", 55);
        fault("game 0 0;hand 0 0 0 0 0 0 0 0 0;hand 1 0 0 0 0 0 0 0 0;lay 9;hand 0 1;", 68);
        fault("game 0 0;hand 0 0 0 0 0 0 0 0 0;hand 1 0 0 0 0 0 0 0 0;hand 0;", 61);
        fault("game 0 0;lay 0;", 13);
        fault("game 0 0;lay 00;", 13);
        fault("game 0 0;lay 100;", 13);
        fault("game 0 0;lay 1 1;", 15);
        fault("game 0 0;lay;", 12);
        fault("game 0 0;lay lay;", 13);
        fault("game 0 0;lays 1;", 9);
    }

    private static void fault(String text, int place) {
        BeggarPile x = new BeggarPile();
        Check.write(x, text);
        Check.due("read of '" + text + "'", x.read(), -10 - place);
    }

    private static void readFaultChangesNothing() {
        BeggarPile x = Check.told("game 1 2;hand 0 1 0;hand 1 0 0;lay 1;");
        x.note(1, 1);
        x.lays(1);
        Check.write(x, "game 3 3;hand 0 4 4 4;lay 2;lay");
        long before = x.digest();
        Check.due("read()", x.read(), -10 - 31);
        Check.due("a fault: all stays", x.digest(), before);
        for (int what = 0; what <= 2; what++) {
            Check.due("a fault is not refused: status(" + what + ")", x.status(what), 0);
        }
        Check.due("undo()", x.undo(), 1);
    }
}
