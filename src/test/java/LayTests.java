/** Promises 8 to 11: lays, exchanges, undo, card; and the kinds of cards and of players as they are played. */
public final class LayTests {
    private static final String ENDLESS = "game 4 2;hand 0 0 0 1;hand 1 1 0 0;";

    private LayTests() {
    }

    public static void main(String[] args) {
        laysStepByStep();
        laysRefused();
        pricesOfCards();
        priceOfTheJoker();
        courtAgainstCourt();
        waysOfPlayers();
        laysUpTo9999();
        exchanges();
        undo();
        undoEightAtMost();
        card();
        Check.end("LayTests");
    }

    private static void laysStepByStep() {
        BeggarPile x = Check.told("game 0 1;hand 0 0 2 0 0;hand 1 0 0 0 3;");
        Check.due("lays(1)", x.lays(1), 1);
        Check.state(x, "200", "0003", "0", 1, 0);
        Check.due("lays(1)", x.lays(1), 1);
        Check.state(x, "200", "003", "00", 0, 0);
        Check.due("lays(1)", x.lays(1), 1);
        Check.state(x, "00", "003", "002", 1, 2);
        Check.due("lays(1)", x.lays(1), 1);
        Check.state(x, "00", "03", "0020", 1, 1);
        Check.due("lays(1)", x.lays(1), 1);
        Check.state(x, "0000200", "3", "", 0, 0);
        Check.due("count(6)", x.count(6), 1);
        Check.due("lays(5)", x.lays(5), 5);
        Check.state(x, "200", "00030", "", 1, 0);
        Check.due("count(5)", x.count(5), 10);
        Check.due("count(7)", x.count(7), 1);
        Check.due("lays(60), fewer", x.lays(60), 10);
        Check.state(x, "00", "", "030020", 1, 1);
        Check.due("count(5)", x.count(5), 20);
        Check.due("count(6)", x.count(6), 2);
        Check.due("lays(1), done", x.lays(1), BeggarPile.NO);
    }

    private static void laysRefused() {
        BeggarPile x = new BeggarPile();
        Check.due("lays(0)", x.lays(0), BeggarPile.BAD);
        Check.due("lays(61)", x.lays(61), BeggarPile.BAD);
        Check.due("lays(-1)", x.lays(-1), BeggarPile.BAD);
        Check.due("lays(1) without cards", x.lays(1), BeggarPile.NO);
        x.deals(1, 4);
        Check.due("lays(60), the one whose turn it is having none", x.lays(60), BeggarPile.NO);
        Check.due("status(0)", x.status(0), 3);
        Check.due("status(1)", x.status(1), 2);
        Check.due("nothing to undo", x.count(12), 0);
    }

    private static void pricesOfCards() {
        for (int kind = 0; kind <= 4; kind++) {
            BeggarPile x = Check.told("game 0 0;hand 0 0;hand 1 0;");
            x.deals(0, kind);
            x.lays(3);
            Check.due("debt for kind " + kind, x.count(4), kind);
            Check.due("turn behind it", x.count(3), 1);
        }
    }

    private static void priceOfTheJoker() {
        for (int n = 1; n <= 16; n++) {
            BeggarPile x = new BeggarPile();
            for (int i = 0; i < n - 1; i++) {
                x.deals(i % 2, 0);
            }
            x.deals((n - 1) % 2, 5);
            Check.due("lays(" + n + ")", x.lays(n), n);
            Check.due("debt for a joker, " + n + "-th", x.count(4), 1 + n % 3);
            Check.due("turn behind it", x.count(3), n % 2);
        }
    }

    private static void courtAgainstCourt() {
        BeggarPile x = Check.told("game 0 0;hand 0 4 0 1;hand 1 0 0 3 0;");
        x.lays(4);
        Check.state(x, "01", "0", "4003", 0, 3);
        x.lays(2);
        Check.state(x, "", "0", "400301", 1, 1);
        x.lays(1);
        Check.state(x, "4003010", "", "", 0, 0);
        Check.due("count(6)", x.count(6), 1);
        x.lays(1);
        Check.due("done", x.lays(1), BeggarPile.NO);
    }

    private static void waysOfPlayers() {
        String[] five = {"43210", "01234", "21043", "42031", "34012", "34120"};
        String[] six = {"543210", "012345", "210543", "531420", "345012", "452301"};
        for (int kind = 0; kind < 6; kind++) {
            BeggarPile x = Check.told("game 0 0;hand 0 4 2 0;hand 1 3 1;");
            x.player(1, kind);
            x.player(0, (kind + 1) % 6);
            x.lays(5);
            Check.state(x, "", five[kind], "", 1, 0);
            x = Check.told("game 0 0;hand 0 5 3 1;hand 1 4 2 0 0;");
            x.player(0, kind);
            x.player(1, (kind + 1) % 6);
            x.lays(6);
            Check.state(x, six[kind], "0", "", 0, 0);
        }
    }

    private static void laysUpTo9999() {
        BeggarPile x = Check.told(ENDLESS);
        for (int i = 0; i < 166; i++) {
            Check.due("lays(60)", x.lays(60), 60);
        }
        Check.due("lays(60) up to 9999", x.lays(60), 39);
        Check.due("count(5)", x.count(5), 9999);
        Check.due("count(6)", x.count(6), 1666);
        Check.due("count(7)", x.count(7), 1667);
        Check.due("lays(1) at 9999", x.lays(1), BeggarPile.NO);
        Check.due("moves go beyond it in what is told", x.behind(1, 2), 1);
        Check.due("again()", x.again(), 6);
        Check.due("first(0)", x.first(0), 3);
        Check.due("exchanges(0, 0) may be", x.exchanges(0, 0), 1);
        Check.due("undo()", x.undo(), 9999);
        Check.due("undo()", x.undo(), 9960);
        Check.due("count(7)", x.count(7), 1660);
    }

    private static void exchanges() {
        BeggarPile x = Check.told("game 0 0;hand 0 0 1 2;hand 1 3 4;lay 1;");
        Check.due("exchanges(1, 0)", x.exchanges(1, 0), 32);
        Check.state(x, "13", "24", "0", 1, 0);
        Check.due("exchanges(0, 1)", x.exchanges(0, 1), 41);
        Check.state(x, "43", "21", "0", 1, 0);
        Check.due("two may be undone", x.count(12), 2);
        Check.due("exchanges(-1, 0)", x.exchanges(-1, 0), BeggarPile.BAD);
        Check.due("exchanges(2, 0)", x.exchanges(2, 0), BeggarPile.BAD);
        Check.due("exchanges(0, -1)", x.exchanges(0, -1), BeggarPile.BAD);
        Check.due("exchanges(0, 2)", x.exchanges(0, 2), BeggarPile.BAD);
        Check.due("exchanges(MAX, MIN)", x.exchanges(Integer.MAX_VALUE, Integer.MIN_VALUE), BeggarPile.BAD);
        Check.due("two may be undone", x.count(12), 2);
        Check.due("status(0)", x.status(0), 5);
        Check.due("moves stay", x.count(5), 1);
    }

    private static void undo() {
        BeggarPile x = Check.told(ENDLESS);
        long start = x.digest();
        x.lays(2);
        x.note(3, 1);
        x.lays(2);
        x.exchanges(0, 3);
        Check.due("undo()", x.undo(), 4);
        Check.state(x, "1", "0100", "0", 0, 0);
        Check.due("count(7)", x.count(7), 1);
        Check.due("undo()", x.undo(), 2);
        Check.state(x, "01", "00", "01", 0, 1);
        Check.due("count(7)", x.count(7), 0);
        Check.due("notes stay", x.count(10), 1);
        Check.due("undo()", x.undo(), 0);
        Check.due("undo(), none left", x.undo(), BeggarPile.NO);
        Check.due("status(1)", x.status(1), 1);
        x.forget(0);
        Check.due("all as at the start", x.digest(), start);
    }

    private static void undoEightAtMost() {
        BeggarPile x = Check.told(ENDLESS);
        for (int i = 1; i <= 11; i++) {
            x.lays(i);
            Check.due("count(12)", x.count(12), Math.min(8, i));
        }
        int moves = 66;
        for (int i = 11; i > 3; i--) {
            moves -= i;
            Check.due("undo()", x.undo(), moves);
        }
        Check.due("a ninth undo()", x.undo(), BeggarPile.NO);
        Check.due("count(5)", x.count(5), 6);
        Check.state(x, "001", "100", "", 0, 0);
        x.lays(1);
        Check.due("undo()", x.undo(), 6);
    }

    private static void card() {
        BeggarPile x = Check.told("game 0 0;hand 0 0 1 2;hand 1 3 4;lay 1;");
        Check.due("card(0, 0)", x.card(0, 0), 1);
        Check.due("card(0, 1)", x.card(0, 1), 2);
        Check.due("card(1, 1)", x.card(1, 1), 4);
        Check.due("card(2, 0)", x.card(2, 0), 0);
        int[][] wrong = {{0, 2}, {1, 2}, {2, 1}, {0, -1}, {3, 0}, {-1, 0}, {2, Integer.MAX_VALUE}, {Integer.MIN_VALUE, 0}};
        for (int i = 0; i < wrong.length; i++) {
            Check.due("card refused", x.card(wrong[i][0], wrong[i][1]), BeggarPile.BAD);
        }
        Check.due("status(0)", x.status(0), wrong.length);
    }
}
