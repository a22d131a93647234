/** Promises 19 to 28: note, mark, forget, is, look, kinds, ask, against, luck, evenings. */
public final class GuessTests {
    private GuessTests() {
    }

    public static void main(String[] args) {
        notes();
        jokersBySight();
        notesRefused();
        marks();
        playersBySight();
        marksRefused();
        forget();
        against();
        luck();
        evenings();
        Check.end("GuessTests");
    }

    private static void notes() {
        BeggarPile x = new BeggarPile();
        Check.due("is(), all fit", x.is(), 63);
        Check.due("look(), all fit", x.look(), 1);
        Check.due("note(1, 2)", x.note(1, 2), 1);
        Check.due("is(): queen, joker", x.is(), 4 + 32);
        Check.due("look()", x.look(), 2);
        Check.due("note(2, 3)", x.note(2, 3), 2);
        Check.due("is(): joker", x.is(), 32);
        Check.due("look(), one kind", x.look(), 1);
        Check.due("note(3, 9)", x.note(3, 9), 3);
        Check.due("is(), none fits", x.is(), 0);
        Check.due("look(), no kind", x.look(), BeggarPile.NONE);
        int[] fitting = {1, 2 + 32, 4, 8, 16, 0};
        for (int price = 0; price < fitting.length; price++) {
            x = new BeggarPile();
            x.note(3, price);
            Check.due("is() by note(3, " + price + ")", x.is(), fitting[price]);
        }
        x = new BeggarPile();
        x.note(3, 1);
        Check.due("look(): knave, joker", x.look(), 1);
    }

    private static void jokersBySight() {
        BeggarPile x = new BeggarPile();
        for (int n = 1; n <= 6; n++) {
            Check.due("note", x.note(n, 1 + n % 3), n);
        }
        Check.due("is(): joker", x.is(), 32);
        Check.due("a seventh note", x.note(7, 2), BeggarPile.FULL);
        Check.due("bad ahead of full", x.note(17, 2), BeggarPile.BAD);
    }

    private static void notesRefused() {
        BeggarPile x = new BeggarPile();
        Check.due("note(0, 0)", x.note(0, 0), BeggarPile.BAD);
        Check.due("note(17, 0)", x.note(17, 0), BeggarPile.BAD);
        Check.due("note(1, -1)", x.note(1, -1), BeggarPile.BAD);
        Check.due("note(1, 10)", x.note(1, 10), BeggarPile.BAD);
        Check.due("note(16, 9)", x.note(16, 9), 1);
        Check.due("status(0)", x.status(0), 4);
    }

    private static void marks() {
        BeggarPile x = new BeggarPile();
        Check.due("ask(0), all fit", x.ask(0), 802);
        Check.due("mark(0, 4, 1, 2)", x.mark(0, 4, 1, 2), 1);
        Check.due("kinds(0): turner, stepper", x.kinds(0), 2 + 8);
        Check.due("ask(0)", x.ask(0), 200);
        Check.due("kinds(1)", x.kinds(1), 63);
        Check.due("mark(1, 1, 0, 1)", x.mark(1, 1, 0, 1), 2);
        Check.due("kinds(1), none fits", x.kinds(1), 0);
        Check.due("ask(1), no kind", x.ask(1), BeggarPile.NONE);
        Check.due("mark(0, 2, 0, 1)", x.mark(0, 2, 0, 1), 3);
        Check.due("kinds(0): turner", x.kinds(0), 2);
        Check.due("ask(0), one kind", x.ask(0), 100);
    }

    private static void playersBySight() {
        int[][] orders = {{0, 1, 2, 3, 4, 5, 6}, {6, 5, 4, 3, 2, 1, 0}, {3, 4, 5, 6, 0, 1, 2}, {0, 2, 4, 6, 1, 3, 5},
            {2, 1, 0, 6, 5, 4, 3}, {1, 0, 3, 2, 5, 4, 6}};
        for (int kind = 0; kind < 6; kind++) {
            BeggarPile x = new BeggarPile();
            for (int k = 0; k < 6; k++) {
                Check.due("mark", x.mark(1, 7, k, orders[kind][k]), k + 1);
            }
            Check.due("kinds(1) of kind " + kind, x.kinds(1), 1 << kind);
            Check.due("a seventh mark", x.mark(0, 7, 6, orders[kind][6]), BeggarPile.FULL);
            x.forget(1);
            x.mark(1, 7, 6, orders[kind][6]);
            Check.holds("kinds(1) of the last card", (x.kinds(1) >> kind & 1) == 1);
        }
    }

    private static void marksRefused() {
        BeggarPile x = new BeggarPile();
        int[][] wrong = {{-1, 1, 0, 0}, {2, 1, 0, 0}, {0, 0, 0, 0}, {0, 17, 0, 0}, {0, 3, 3, 0}, {0, 3, -1, 0}, {0, 3, 0, -1},
            {0, 3, 0, 16}, {0, Integer.MIN_VALUE, 0, 0}};
        for (int i = 0; i < wrong.length; i++) {
            Check.due("mark refused", x.mark(wrong[i][0], wrong[i][1], wrong[i][2], wrong[i][3]), BeggarPile.BAD);
        }
        Check.due("kinds(-1)", x.kinds(-1), BeggarPile.BAD);
        Check.due("kinds(2)", x.kinds(2), BeggarPile.BAD);
        Check.due("ask(-1)", x.ask(-1), BeggarPile.BAD);
        Check.due("ask(2)", x.ask(2), BeggarPile.BAD);
        Check.due("mark(1, 16, 15, 15)", x.mark(1, 16, 15, 15), 1);
        Check.due("status(0)", x.status(0), wrong.length + 4);
    }

    private static void forget() {
        BeggarPile x = new BeggarPile();
        x.note(1, 1);
        x.note(2, 1);
        x.mark(0, 1, 0, 0);
        Check.due("forget(-1)", x.forget(-1), BeggarPile.BAD);
        Check.due("forget(2)", x.forget(2), BeggarPile.BAD);
        Check.due("forget(0)", x.forget(0), 2);
        Check.due("marks stay", x.count(11), 1);
        Check.due("is()", x.is(), 63);
        x.note(3, 0);
        Check.due("forget(1)", x.forget(1), 1);
        Check.due("notes stay", x.count(10), 1);
        Check.due("forget(1) again", x.forget(1), 0);
    }

    private static void against() {
        BeggarPile x = new BeggarPile();
        Check.due("against(-1), always the same one", x.against(-1), 36);
        for (int k = 0; k < 36; k++) {
            Check.due("against(" + k + ")", x.against(k), 10 * (k / 6) + k % 6);
        }
        Check.due("against(36)", x.against(36), -5);
        Check.due("against(MAX)", x.against(Integer.MAX_VALUE), -5);
        Check.due("-5 is not refused", x.status(0) + x.status(1) + x.status(2), 0);
        Check.due("against(-2)", x.against(-2), -10);
        Check.due("against(MIN)", x.against(Integer.MIN_VALUE), -10);
        Check.due("-10 counts as bad", x.status(0), 2);
        x = Check.told("game 0 1;hand 0 0 1 0 3 0 0 2 0;hand 1 0 0 4 0 5 0 0 1;lay 3;");
        Check.due("against(-1)", x.against(-1), 18);
        Check.due("against(0)", x.against(0), 10);
        Check.due("against(3)", x.against(3), 13);
        Check.due("against(18)", x.against(18), -5);
        x = Check.told("game 0 0;hand 0 0 2 0 0 0 5;hand 1 0 2 2 0 0;");
        Check.due("against(-1), some games being endless", x.against(-1), 1);
        Check.due("against(0)", x.against(0), 21);
        x = Check.told("game 0 0;hand 0 0 2 0 0 0 5;hand 1 0 2 5 0 0;");
        Check.due("against(-1), some games being endless", x.against(-1), 3);
        Check.due("against(0)", x.against(0), 20);
        Check.due("against(1)", x.against(1), 21);
        Check.due("against(2)", x.against(2), 25);
        Check.due("against(3)", x.against(3), -5);
        x = Check.told("game 2 4;hand 0 0 0 1 2 4 0 0;hand 1 3 0 0 0 0 5 1;");
        Check.due("against(-1), none rests", x.against(-1), 0);
        Check.due("against(0)", x.against(0), -5);
    }

    private static void luck() {
        BeggarPile x = Check.told("game 0 0;hand 0 0 1;hand 1 0 1;");
        fraction(x, 0, 0, 0, 1);
        fraction(x, 0, 1, 0, 1);
        fraction(x, 0, 2, 1, 2);
        fraction(x, 1, 1, 1, 1);
        fraction(x, 0, 5, 1, 2);
        fraction(x, 1, 5, 1, 2);
        Check.due("luck(-1, 0)", x.luck(-1, 0), BeggarPile.BAD);
        Check.due("luck(2, 0)", x.luck(2, 0), BeggarPile.BAD);
        Check.due("luck(0, -1)", x.luck(0, -1), BeggarPile.BAD);
        Check.due("luck(0, 6)", x.luck(0, 6), BeggarPile.BAD);
        Check.due("refused: the fraction stays", x.part(1), 2);
        x = Check.told("game 0 1;hand 0 0 1 0 3 0 0 2 0;hand 1 0 0 4 0 5 0 0 1;lay 3;");
        fraction(x, 0, 3, 1, 3);
        fraction(x, 1, 4, 5, 12);
        x = Check.told("game 4 2;hand 0 0 0 1;hand 1 1 0 0;");
        fraction(x, 0, 0, 0, 1);
        fraction(x, 1, 0, 0, 1);
        fraction(new BeggarPile(), 1, 5, 1, 1);
    }

    private static void fraction(BeggarPile x, int p, int n, long above, long below) {
        Check.due("luck(" + p + ", " + n + ")", x.luck(p, n), 1);
        Check.due("part(0)", x.part(0), above);
        Check.due("part(1)", x.part(1), below);
    }

    /** With these hands player 0 wins just if one of the two, but not both, is cut. */
    private static void evenings() {
        BeggarPile x = Check.told("game 0 0;hand 0 0 1;hand 1 0 1;");
        int[] seeds = {0, 1, 7, 4711, 123456, 999999};
        for (int i = 0; i < seeds.length; i++) {
            long state = seeds[i];
            int wins = 0;
            for (int n = 0; n <= 30; n++) {
                Check.due("evenings(" + seeds[i] + ", " + n + ")", x.evenings(seeds[i], n), wins);
                state = (state * 1103515245L + 12345L) & 2147483647L;
                wins += (state >> 16 & 1) != (state >> 20 & 1) ? 1 : 0;
            }
        }
        Check.due("evenings(-1, 0)", x.evenings(-1, 0), BeggarPile.BAD);
        Check.due("evenings(1000000, 0)", x.evenings(1000000, 0), BeggarPile.BAD);
        Check.due("evenings(0, -1)", x.evenings(0, -1), BeggarPile.BAD);
        Check.due("evenings(0, 31)", x.evenings(0, 31), BeggarPile.BAD);
        Check.due("evenings without cards", new BeggarPile().evenings(5, 30), 0);
        x = new BeggarPile();
        x.deals(0, 0);
        Check.due("an empty hand stays", x.evenings(5, 30), 30);
    }
}
