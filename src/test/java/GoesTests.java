/** Promises 12 to 18: behind, won, lasts, first, again, exchange, cut. */
public final class GoesTests {
    private static final String ENDLESS = "game 4 2;hand 0 0 0 1;hand 1 1 0 0;";
    /** Ends behind 498 moves. */
    private static final String LONG = "game 0 5;hand 0 0 0 1 2 0 0 0 0;hand 1 0 0 0 1 0 0 0;";
    /** Runs into a round that it does not begin in. */
    private static final String INTO_A_ROUND = "game 3 3;hand 0 0 0 0 1 0 0 0 0;hand 1 0 0 0 0 0 3 0;";

    private GoesTests() {
    }

    public static void main(String[] args) {
        behind();
        behindRefused();
        wonAndLasts();
        first();
        again();
        exchange();
        cut();
        nothingIsChanged();
        Check.end("GoesTests");
    }

    private static void behind() {
        BeggarPile x = Check.told("game 0 0;hand 0 1;hand 1 0;");
        int[][] want = {{1, 1, 0, 0, 0}, {0, 1, 1, 1, 1}, {2, 0, 0, 0, 0}, {1, 0, 1, 1, 1}};
        for (int m = 0; m <= 60; m++) {
            for (int what = 0; what <= 4; what++) {
                Check.due("behind(" + m + ", " + what + ")", x.behind(m, what), want[Math.min(m, 3)][what]);
            }
        }
        x = Check.told(LONG);
        int[] at = new int[61 * 5];
        for (int i = 0; i < at.length; i++) {
            at[i] = x.behind(i / 5, i % 5);
        }
        BeggarPile laid = Check.told(LONG);
        for (int m = 0; m <= 60; m++) {
            for (int what = 0; what <= 4; what++) {
                Check.due("as laid, behind(" + m + ", " + what + ")", at[5 * m + what], laid.count(what));
            }
            laid.lays(1);
        }
    }

    private static void behindRefused() {
        BeggarPile x = new BeggarPile();
        Check.due("behind(-1, 0)", x.behind(-1, 0), BeggarPile.BAD);
        Check.due("behind(61, 0)", x.behind(61, 0), BeggarPile.BAD);
        Check.due("behind(0, -1)", x.behind(0, -1), BeggarPile.BAD);
        Check.due("behind(0, 5)", x.behind(0, 5), BeggarPile.BAD);
        Check.due("first(-1)", x.first(-1), BeggarPile.BAD);
        Check.due("first(2)", x.first(2), BeggarPile.BAD);
        Check.due("exchange(-1, 0)", x.exchange(-1, 0), BeggarPile.BAD);
        Check.due("exchange(2, 0)", x.exchange(2, 0), BeggarPile.BAD);
        Check.due("exchange(0, -1)", x.exchange(0, -1), BeggarPile.BAD);
        Check.due("exchange(0, 2)", x.exchange(0, 2), BeggarPile.BAD);
        Check.due("cut(-1, 0)", x.cut(-1, 0), BeggarPile.BAD);
        Check.due("cut(2, 0)", x.cut(2, 0), BeggarPile.BAD);
        Check.due("cut(0, -1)", x.cut(0, -1), BeggarPile.BAD);
        Check.due("cut(0, 2)", x.cut(0, 2), BeggarPile.BAD);
        Check.due("status(0)", x.status(0), 14);
        Check.due("none is not refused", x.first(0), BeggarPile.NONE);
        Check.due("status(0)", x.status(0), 14);
    }

    private static void wonAndLasts() {
        BeggarPile x = new BeggarPile();
        ends(x, 1, 0);
        x.deals(0, 1);
        ends(x, 0, 1);
        x.deals(1, 0);
        ends(x, 0, 3);
        x = Check.told("game 0 0;hand 0 0;hand 1 1;");
        ends(x, 1, 2);
        x = Check.told(LONG);
        ends(x, 1, 498);
        x.lays(60);
        ends(x, 1, 438);
        x = Check.told(ENDLESS);
        ends(x, BeggarPile.NONE, BeggarPile.NONE);
        x = Check.told(INTO_A_ROUND);
        ends(x, BeggarPile.NONE, BeggarPile.NONE);
        for (int i = 0; i < 60; i++) {
            Check.due("it does not end", x.lays(60), 60);
        }
    }

    private static void ends(BeggarPile x, int winner, int moves) {
        Check.due("won()", x.won(), winner);
        Check.due("lasts()", x.lasts(), moves);
    }

    private static void first() {
        BeggarPile x = Check.told(ENDLESS);
        Check.due("first(0)", x.first(0), 3);
        Check.due("first(1)", x.first(1), 1);
        x.lays(3);
        Check.due("first(0), from a pile taken", x.first(0), 3);
        Check.due("first(1)", x.first(1), 0);
        x.lays(2);
        Check.due("first(0)", x.first(0), 1);
        x = Check.told("game 0 0;hand 0 0 0;hand 1 0 0;");
        Check.due("first(0), never taken", x.first(0), BeggarPile.NONE);
        Check.due("first(1), never taken", x.first(1), BeggarPile.NONE);
    }

    private static void again() {
        BeggarPile x = Check.told(ENDLESS);
        for (int i = 0; i < 12; i++) {
            Check.due("again()", x.again(), 6);
            x.lays(1);
        }
        x.player(0, 0);
        Check.due("again(), another player", x.again(), BeggarPile.NONE);
        x = Check.told(INTO_A_ROUND);
        Check.due("again(), not from here", x.again(), BeggarPile.NONE);
        x.lays(60);
        x.lays(60);
        Check.holds("again(), in the round", x.again() > 0);
        x = Check.told("game 1 3;hand 0 0 0 1 0 0 0 0;hand 1 0 0 0 0 0 0 1;");
        Check.due("again(), a long round", x.again(), 126);
        Check.due("again() of a game that is done", new BeggarPile().again(), BeggarPile.NONE);
    }

    private static void exchange() {
        BeggarPile x = Check.told("game 0 0;hand 0 0;hand 1 1;");
        best(x, 0, 0, 3);
        Check.due("exchange(1, 0)", x.exchange(1, 0), BeggarPile.NONE);
        Check.due("exchange(1, 1)", x.exchange(1, 1), BeggarPile.NONE);
        x = Check.told("game 0 0;hand 0 0 0;hand 1 0 1;");
        best(x, 0, 1, 5);
        best(x, 1, 0, 4);
        x = Check.told("game 5 4;hand 0 0 4 2 0 4 2 0 4;hand 1 5 3 1 5 3 1 5 3;");
        best(x, 0, 606, 31);
        best(x, 1, 201, 14);
        x = new BeggarPile();
        x.deals(1, 4);
        Check.due("exchange(1, 0), nothing to exchange", x.exchange(1, 0), BeggarPile.NONE);
    }

    private static void best(BeggarPile x, int p, int choice, int moves) {
        Check.due("exchange(" + p + ", 0)", x.exchange(p, 0), choice);
        Check.due("exchange(" + p + ", 1)", x.exchange(p, 1), moves);
        x.exchanges(p == 0 ? choice / 100 : choice % 100, p == 0 ? choice % 100 : choice / 100);
        Check.due("it wins", x.won(), p);
        Check.due("as soon as told", x.lasts(), moves);
        x.undo();
    }

    private static void cut() {
        BeggarPile x = Check.told("game 0 0;hand 0 0 1;hand 1 0 0;");
        Check.due("cut(0, 0), like ones", x.cut(0, 0), 0);
        Check.due("cut(0, 1)", x.cut(0, 1), 5);
        Check.due("cut(1, 0)", x.cut(1, 0), BeggarPile.NONE);
        Check.due("cut(1, 1)", x.cut(1, 1), BeggarPile.NONE);
        x = Check.told("game 0 0;hand 0 0 1;hand 1 0 1;");
        Check.due("cut(0, 0)", x.cut(0, 0), 1);
        Check.due("cut(0, 1)", x.cut(0, 1), 5);
        Check.due("cut(1, 0)", x.cut(1, 0), 0);
        Check.due("cut(1, 1)", x.cut(1, 1), 4);
        x = Check.told("game 2 4;hand 0 0 0 1 2 4 0 0;hand 1 3 0 0 0 0 5 1;");
        Check.due("cut(0, 0)", x.cut(0, 0), 6);
        Check.due("cut(0, 1)", x.cut(0, 1), 81);
        Check.due("cut(1, 0)", x.cut(1, 0), 3);
        Check.due("cut(1, 1)", x.cut(1, 1), 12);
        x = new BeggarPile();
        Check.due("cut(1, 0), no cards", x.cut(1, 0), BeggarPile.NONE);
        x.deals(1, 4);
        Check.due("cut(1, 0), done", x.cut(1, 0), 0);
        Check.due("cut(1, 1), done", x.cut(1, 1), 0);
    }

    private static void nothingIsChanged() {
        BeggarPile x = Check.told(LONG);
        x.lays(5);
        long before = x.digest();
        x.behind(60, 0);
        x.won();
        x.lasts();
        x.first(0);
        x.again();
        x.exchange(0, 0);
        x.cut(1, 1);
        x.against(2);
        x.evenings(3, 30);
        Check.due("nothing is changed", x.digest(), before);
        x.luck(0, 5);
        Check.due("the cards stay", x.count(0) + 100 * x.count(1) + 10000 * x.count(5), 5 + 100 * 5 + 50000);
    }
}
