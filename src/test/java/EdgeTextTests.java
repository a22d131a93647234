import java.util.function.Supplier;

/** The sentences that name a boundary of promise 7: a game told by a text. */
public final class EdgeTextTests {
    private static final String GAME = "game 0 0;";
    /** Nine cards for hand 0. */
    private static final String NINE = "hand 0 0 0 0 0 0 0 0 0 0;";

    private EdgeTextTests() {
    }

    public static void main(String[] args) {
        items();
        numbers();
        tokens();
        tooManyCards();
        endsTooEarly();
        lengths();
        whatStands();
        Edge.end("EdgeTextTests", 7, 7);
    }

    /** The text is read: so many items. */
    private static void right(String text, int items) {
        BeggarPile x = new BeggarPile();
        Check.write(x, text);
        Check.due("read() of '" + text + "'", x.read(), items);
        for (int what = 0; what <= 2; what++) {
            Check.due("status(" + what + ")", x.status(what), 0);
        }
    }

    /** The text has a fault at a place: all stays, STATUS too. */
    private static void fault(String text, int place) {
        Edge.leavesAll(Scenes.telling(text), "read() of '" + text + "'", x -> x.read(), -10 - place);
    }

    /** A fault where the second text begins. */
    private static void faultBehind(String sound, String unsound) {
        fault(sound + unsound, sound.length());
    }

    // ---- which items, where

    private static void items() {
        Edge.test(7, "how many ITEMS", EdgeTextTests::howManyItems);
        Edge.test(7, "game (once, first of all): game again", () -> {
            faultBehind(GAME, "game 0 0;");
            faultBehind(GAME + "hand 0 1;", "game 0 0;");
            faultBehind("game ", "game 0 0;");
            faultBehind("game 0 0", "game 0 0;");
            faultBehind(GAME + "hand 0 1 ", "game;");
        });
        Edge.test(7, "anything ahead of it", () -> {
            String[] ahead = {"hand 0 1;", "lay 1;", ";", "0", "00", "000", "x", "!", "hand", "lay", "gamegame 0 0;"};
            for (String first : ahead) {
                fault(first + GAME, 0);
                fault("  " + first + " " + GAME, 2);
            }
        });
        Edge.test(7, "a word that is none", EdgeTextTests::wordsThatAreNone);
        Edge.test(7, "; where there is none", EdgeTextTests::semicolons);
        Edge.test(7, "each ended by ;", () -> {
            faultBehind("game 0 0 ", "hand 0 1;");
            faultBehind(GAME + "hand 0 1 ", "hand 1 1;");
            faultBehind(GAME + "hand 0 1 ", "lay 1;");
            faultBehind(GAME + "lay 1 ", "lay 1;");
            faultBehind(GAME + "lay 1", "hand 0 1;");
        });
    }

    private static void howManyItems() {
        right(GAME, 1);
        right(GAME + "lay 1;", 2);
        right(GAME + "hand 1 5;", 2);
        right(GAME + "hand 1 5;hand 1 5;", 3);
        right("game 0 0;" + "lay 1;".repeat(23), 24);
        right("game0 0;" + "lay1;".repeat(28), 29);
    }

    private static void wordsThatAreNone() {
        String[] firsts = {"g", "gam", "gamee", "gamea", "gamez", "name", "gaze", "agame", "gaem", "hands", "lays", "a", "z", "gamehand"};
        for (String word : firsts) {
            fault(word + " 0 0;", 0);
        }
        String[] laters = {"h", "han", "handa", "handz", "land", "hard", "ahand", "l", "la", "laya", "layz", "may", "lax", "play", "a", "z", "handlay"};
        for (String word : laters) {
            faultBehind(GAME, word + " 0 1;");
        }
        faultBehind("game ", "zero 0;");
        faultBehind(GAME + "hand 0 1 ", "a;");
        faultBehind(GAME + "hand ", "zero 1;");
        faultBehind(GAME + "lay ", "lay 1;");
        faultBehind(GAME + "lay ", "one;");
    }

    private static void semicolons() {
        String[] sound = {"", "game", "game 0", GAME, GAME + "hand", GAME + "hand 0", GAME + "lay", GAME + "lay 1;", GAME + "hand 0 1;"};
        for (String text : sound) {
            faultBehind(text, ";");
            faultBehind(text + " ", ";lay 1;");
        }
    }

    // ---- numbers

    private static void numbers() {
        Edge.test(7, "game KIND KIND: 0 .. 5, a number not as told", () -> {
            for (int kind = 0; kind <= 5; kind++) {
                readsKinds("game " + kind + " 0;", kind, 0);
                readsKinds("game 0 0" + kind + ";", 0, kind);
            }
            String[] wrong = {"6", "06", "9", "10", "50", "99"};
            for (String number : wrong) {
                faultBehind("game ", number + " 0;");
                faultBehind("game 0 ", number + ";");
            }
            faultBehind("game 0 0 ", "0;");
        });
        Edge.test(7, "hand p: 0, 1, a number not as told", () -> {
            readsRows(GAME + "hand 0 3;", "3", "", "");
            readsRows(GAME + "hand 1 3;", "", "3", "");
            readsRows(GAME + "hand 00 3;hand 01 4;", "3", "4", "");
            String[] wrong = {"2", "02", "10", "11", "99"};
            for (String number : wrong) {
                faultBehind(GAME + "hand ", number + " 3;");
            }
        });
        Edge.test(7, "numbers (KINDS of CARDS): 0 .. 5, a number not as told", () -> {
            readsRows(GAME + "hand 0 0 1 2 3 4 5;hand 1 05 04 03 02 01 00;", "012345", "543210", "");
            String[] wrong = {"6", "06", "9", "10", "55", "99"};
            for (String number : wrong) {
                faultBehind(GAME + "hand 0 ", number + ";");
                faultBehind(GAME + "hand 0 1 ", number + ";");
                faultBehind(GAME + "hand 1 1 2 3 4 5 0 1 2 ", number + ";");
            }
        });
        Edge.test(7, "1 to 9 numbers: a 10th number", EdgeTextTests::oneToNineNumbers);
        Edge.test(7, "lay n (MOVES, 1 .. 99), a number not as told", EdgeTextTests::layOneTo99);
        Edge.test(7, "lay n: fewer, if it is DONE", EdgeTextTests::layFewer);
    }

    private static void readsKinds(String text, int zero, int one) {
        BeggarPile x = Check.told(text);
        Check.due("count(8) by " + text, x.count(8), zero);
        Check.due("count(9) by " + text, x.count(9), one);
    }

    private static void readsRows(String text, String zero, String one, String pile) {
        BeggarPile x = Check.told(text);
        Check.row(x, 0, zero);
        Check.row(x, 1, one);
        Check.row(x, 2, pile);
    }

    private static void oneToNineNumbers() {
        faultBehind(GAME + "hand 0", ";");
        faultBehind(GAME + "hand 0 ", ";lay 1;");
        readsRows(GAME + "hand 0 1;", "1", "", "");
        readsRows(GAME + "hand 0 1 2 3 4 5 0 1 2;", "12345012", "", "");
        readsRows(GAME + "hand 0 1 2 3 4 5 0 1 2 3;", "123450123", "", "");
        faultBehind(GAME + "hand 0 1 2 3 4 5 0 1 2 3 ", "4;");
        faultBehind(GAME + "hand 1 1 2 3 4 5 0 1 2 3 ", "4 5;");
        faultBehind(GAME + "hand 1 1 2 3 4 5 0 1 2 3 ", "9;");
        faultBehind(GAME + "hand 1 1 2 3 4 5 0 1 2 3 ", "000;");
        readsRows(GAME + "hand 0 1 2 3 4 5 0 1 2 3;hand 0 4;", "1234501234", "", "");
    }

    private static void layOneTo99() {
        int[][] laid = {{1, 1}, {2, 2}, {9, 9}, {10, 10}, {60, 60}, {61, 61}, {98, 98}, {99, 99}};
        for (int[] moves : laid) {
            BeggarPile x = Check.told("game 4 2;hand 0 0 0 1;hand 1 1 0 0;lay " + moves[0] + ";");
            Check.due("count(5) by lay " + moves[0], x.count(5), moves[1]);
            Check.due("count(7) by lay " + moves[0], x.count(7), (moves[1] + 3) / 6);
        }
        Check.due("count(5) by lay 01", Check.told("game 4 2;hand 0 0 0 1;hand 1 1 0 0;lay 01;").count(5), 1);
        Check.due("count(5) by lay 99, lay 99, lay 1",
                Check.told("game 4 2;hand 0 0 0 1;hand 1 1 0 0;lay 99;lay 99;lay 1;").count(5), 199);
        String[] wrong = {"0", "00", "100", "099", "001", "000"};
        for (String number : wrong) {
            faultBehind(GAME + "lay ", number + ";");
            faultBehind(GAME + "hand 0 1;hand 1 1;lay 2;lay ", number + ";");
        }
        faultBehind(GAME + "lay 1 ", "1;");
    }

    private static void layFewer() {
        readsRows(GAME + "lay 1;", "", "", "");
        readsRows(GAME + "hand 1 1;lay 99;", "", "1", "");
        readsRows(GAME + "hand 0 1;lay 99;", "", "", "1");
        readsRows(GAME + "hand 0 1;hand 1 0;lay 99;lay 99;", "0", "", "1");
        BeggarPile x = Check.told(GAME + "hand 0 1;hand 1 0;lay 2;lay 2;");
        Check.due("count(5), fewer", x.count(5), 3);
        x = Check.told(GAME + "hand 0 0;lay 9;hand 1 0 0;lay 1;");
        Check.due("count(5), going on with a new card", x.count(5), 2);
    }

    // ---- tokens

    private static void tokens() {
        Edge.test(7, "figures (1 or 2 are one number)", EdgeTextTests::oneOrTwoFigures);
        Edge.test(7, "a run of three figures or more (at its first one)", EdgeTextTests::threeFiguresOrMore);
        Edge.test(7, "words of letters a .. z; a byte that begins none", EdgeTextTests::bytesThatBeginNone);
        Edge.test(7, "blanks (32) between", EdgeTextTests::blanks);
        Edge.test(7, "the first TOKEN that can not stand there", () -> {
            fault("game 6 7;hand 9;!", 5);
            fault("game 0 000;game", 7);
            faultBehind(GAME + "hand 0 1 2;", "word 3;lay 0;");
            faultBehind(GAME + NINE + "hand 1 0 0 0 0 0 0 0 ", "0;");
        });
    }

    private static void oneOrTwoFigures() {
        faultBehind("game 00", ";");
        faultBehind("game 05", ";");
        readsKinds("game 05 5;", 5, 5);
        faultBehind(GAME + "hand 0 ", "12;");
        faultBehind(GAME + "hand 00", ";");
        readsRows(GAME + "hand 00 1 02;", "12", "", "");
        Check.due("count(5) by lay 10", Check.told("game 4 2;hand 0 0 0 1;hand 1 1 0 0;lay 10;").count(5), 10);
    }

    private static void threeFiguresOrMore() {
        String[] runs = {"000", "001", "005", "0000", "00000", "100", "0".repeat(20), "9".repeat(40)};
        for (String run : runs) {
            fault(run, 0);
            faultBehind("game ", run + " 0;");
            faultBehind("game 0 ", run + ";");
            faultBehind(GAME, run + ";");
            faultBehind(GAME + "hand ", run + " 0;");
            faultBehind(GAME + "hand 0 ", run + ";");
            faultBehind(GAME + "hand 0 0 ", run + " 0;");
            faultBehind(GAME + "lay ", run + ";");
        }
        fault("game " + "1".repeat(145), 5);
        fault("game " + "4294967296 0;", 5);
    }

    private static void bytesThatBeginNone() {
        for (int c = 0; c <= 127; c++) {
            String sign = String.valueOf((char) c);
            boolean begins = c == ' ' || c == ';' || c >= '0' && c <= '9' || c >= 'a' && c <= 'z';
            if (!begins) {
                fault(sign, 0);
                faultBehind("game", sign + "0 0;");
                faultBehind("game 0", sign + " 0;");
                faultBehind(GAME, sign);
                faultBehind(GAME + "hand 0 1 ", sign + ";");
                faultBehind(GAME + "lay 1", sign + ";");
            }
        }
        fault("Game 0 0;", 0);
        fault("gamE 0 0;", 0);
        faultBehind(GAME, "Lay 1;");
        faultBehind(GAME, "ha");
    }

    private static void blanks() {
        readsRows("   game   0   0   ;   hand   0   1   2   ;   lay   1   ;   ", "2", "", "1");
        readsRows("game0 0;hand0 1 2;lay1;", "2", "", "1");
        fault("ga me 0 0;", 0);
        faultBehind(GAME, "la y 1;");
        faultBehind(GAME + "lay 1 ", "2;");
        faultBehind("game", "\t0 0;");
        faultBehind("game 0 0;", "\n");
    }

    // ---- how many cards

    private static void tooManyCards() {
        Edge.test(7, "16 CARDS together; a 17th CARD", () -> {
            readsRows(GAME + NINE + "hand 1 1 1 1 1 1 1 1;", "0".repeat(9), "1".repeat(7), "");
            faultBehind(GAME + NINE + "hand 1 1 1 1 1 1 1 1 ", "1;");
            faultBehind(GAME + NINE + "hand 1 1 1 1 1 1 1 1;hand 1 ", "1;");
            readsRows(GAME + NINE + "hand 0 1 1 1 1 1 1 1;", "0".repeat(9) + "1".repeat(7), "", "");
            faultBehind(GAME + NINE + "hand 0 1 1 1 1 1 1 1 ", "1;");
            faultBehind(GAME + NINE + "hand 0 1 1 1 1 1 1 1;hand 1 ", "1;");
            faultBehind(GAME + NINE + "hand 1 1 1 1 1 1 1 1 ", "9;");
            faultBehind(GAME + NINE + "hand 1 1 1 1 1 1 1 1;hand 0", ";");
        });
        Edge.test(7, "16 CARDS together: those in THE PILE, too", () -> {
            readsRows(GAME + NINE + "hand 1 0 0 0 0 0 0;lay 15;hand 0 1;", "001", "", "0".repeat(13));
            faultBehind(GAME + NINE + "hand 1 0 0 0 0 0 0;lay 15;hand 0 1 ", "1;");
            faultBehind(GAME + NINE + "hand 1 0 0 0 0 0 0 0;lay 99;hand 1 ", "1;");
        });
    }

    // ---- its length

    private static void endsTooEarly() {
        Edge.test(7, "the TEXT's length, if it ends too early", EdgeTextTests::everyBeginning);
        Edge.test(7, "the TEXT's length: blanks at its end, too", () -> {
            String[] early = {"game", "game 0", "game 0 0", GAME + "hand", GAME + "hand 0", GAME + "hand 0 1", GAME + "lay", GAME + "lay 1"};
            for (String text : early) {
                fault(text, text.length());
                fault(text + " ", text.length() + 1);
                fault("   " + text + "   ", text.length() + 6);
            }
        });
        Edge.test(7, "(an empty one, too)", () -> {
            fault("", 0);
            fault(" ", 1);
            fault(" ".repeat(150), 150);
            Edge.leavesAll(BeggarPile::new, "read()", x -> x.read(), -10);
        });
    }

    /** A word cut off is a word that is none; cut off elsewhere inside an item, the text ends too early. */
    private static void everyBeginning() {
        String text = "game 3 5; hand 0 1 05;lay 12;";
        int[] items = {9, 10, 22, 29};
        int[][] words = {{0, 4}, {10, 14}, {22, 25}};
        for (int length = 0; length <= text.length(); length++) {
            String beginning = text.substring(0, length);
            int due = -10 - length;
            for (int i = 0; i < items.length; i++) {
                due = items[i] == length ? Math.max(1, i) : due;
            }
            for (int[] word : words) {
                due = length > word[0] && length < word[1] ? -10 - word[0] : due;
            }
            if (due > 0) {
                right(beginning, due);
            } else {
                fault(beginning, -10 - due);
            }
        }
    }

    private static void lengths() {
        Edge.test(7, "a TEXT (150 bytes at most)", () -> {
            String game = GAME + "hand 0 1 2 3;lay 1";
            String filled = game + " ".repeat(149 - game.length());
            right(filled + ";", 3);
            fault(filled + " ", 150);
            fault(filled + "!", 149);
            fault(filled, 149);
            fault("g".repeat(150), 0);
            right(" ".repeat(141) + GAME, 1);
            fault(" ".repeat(141) + "gane 0 0;", 141);
            right(GAME + "lay 1;".repeat(23) + "   ", 24);
        });
    }

    // ---- what a game that is read takes the place of, and what stays

    private static void whatStands() {
        Edge.test(7, "A GAME that is read takes the place of all", EdgeTextTests::takesThePlace);
        Edge.test(7, "of all but IMAGES, THE TEXT, THE FRACTION, STATUS", EdgeTextTests::takesNotThePlace);
        Edge.test(7, "-10 less the FAULT: all stays", EdgeTextTests::allStays);
        Edge.test(7, "read again: the same GAME", EdgeTextTests::readAgain);
    }

    private static void takesThePlace() {
        Supplier<BeggarPile> scene = Scenes.telling("game 5 4;hand 1 3 3;hand 0 0 2;lay 2;");
        BeggarPile x = scene.get();
        Check.due("read()", x.read(), 4);
        Check.counts(x, 1, 1, 2, 0, 3, 2, 0, 0, 5, 4, 0, 0, 0, 37);
        Check.row(x, 0, "2");
        Check.row(x, 1, "3");
        Check.row(x, 2, "03");
        Check.due("is(), no NOTES", x.is(), 63);
        Check.due("kinds(1), no MARKS", x.kinds(1), 63);
        Check.due("undo(), nothing", x.undo(), BeggarPile.NO);
        x = Scenes.telling(GAME).get();
        Check.due("read() of a game without cards", x.read(), 1);
        Check.counts(x, 0, 0, 0, 0, 0, 0, 0, 0, 0, 0, 0, 0, 0);
    }

    private static void takesNotThePlace() {
        Supplier<BeggarPile> scene = Scenes.telling("game 5 4;hand 1 3 3;hand 0 0 2;lay 2;");
        BeggarPile x = scene.get();
        BeggarPile left = scene.get();
        x.read();
        Check.due("part(0)", x.part(0), left.part(0));
        Check.due("part(1)", x.part(1), left.part(1));
        Check.due("count(13)", x.count(13), left.count(13));
        for (int what = 0; what <= 2; what++) {
            Check.due("status(" + what + ")", x.status(what), left.status(what));
        }
        for (int i = 0; i <= 1; i++) {
            Check.due("from(" + i + ")", x.from(i), 1);
            left.from(i);
            Check.due("its digest", x.digest(), left.digest());
            Check.due("undo() of it", x.undo(), left.undo());
        }
    }

    private static void allStays() {
        fault("game 1 2;hand 0 4 4 4;hand 1 0 0;lay 3;lay", 42);
        fault("game 1 2;hand 0 4 4 4;hand 1 0 0;lay 3;game", 39);
        fault("game 1 2;hand 0 4 4 4;hand 1 0 0;lay 3", 38);
        fault("game 5 6;", 7);
    }

    private static void readAgain() {
        BeggarPile x = Scenes.telling("game 5 4;hand 1 3 3;hand 0 0 2;lay 2;").get();
        Check.due("read()", x.read(), 4);
        long once = x.digest();
        x.lays(1);
        Check.due("read() again", x.read(), 4);
        Check.due("digest()", x.digest(), once);
    }
}
