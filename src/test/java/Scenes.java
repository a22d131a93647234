import java.util.function.Supplier;

/** Objects brought to the states that boundaries are looked at from; a scene is the same each time it is made. */
final class Scenes {
    /** Never ends, comes round behind 6 moves, takes each third move. */
    static final String[] ENDLESS = {"42", "001", "100"};

    private Scenes() {
    }

    /** A game told by figures: kinds of players, hand 0, hand 1. */
    static BeggarPile dealt(String... game) {
        BeggarPile x = new BeggarPile();
        x.game(game[0].charAt(0) - '0', game[0].charAt(1) - '0');
        deal(x, 0, game[1]);
        deal(x, 1, game[2]);
        return x;
    }

    static void deal(BeggarPile x, int p, String cards) {
        for (int i = 0; i < cards.length(); i++) {
            x.deals(p, cards.charAt(i) - '0');
        }
    }

    static BeggarPile endless() {
        return dealt(ENDLESS);
    }

    /** Nothing is as at first: six may be undone, both images are kept, each kind of refusal was counted. */
    static BeggarPile stirred() {
        BeggarPile x = new BeggarPile();
        x.undo();
        x.from(1);
        x.status(3);
        x.status(-1);
        x.count(14);
        fillNotes(x);
        x.note(1, 1);
        x.game(3, 1);
        deal(x, 0, "110003");
        deal(x, 1, "012240");
        x.lays(4);
        x.exchanges(1, 2);
        x.note(4, 2);
        x.mark(1, 3, 0, 2);
        x.image(0);
        x.exchanges(1, 2);
        x.lays(7);
        x.note(5, 3);
        x.mark(0, 2, 1, 0);
        x.lays(2);
        x.image(1);
        x.mark(1, 5, 4, 4);
        x.lays(5);
        x.luck(0, 3);
        type(x, "game 2 5;hand 0 4 0 1;hand 1 0 3 0;lay 2;");
        return x;
    }

    static void type(BeggarPile x, String text) {
        for (int i = 0; i < text.length(); i++) {
            x.type(text.charAt(i));
        }
    }

    /** Just so many cards in hand 0, hand 1 and the pile, where those in the pile were laid in turn. */
    static Supplier<BeggarPile> holding(int zero, int one, int pile) {
        return () -> {
            BeggarPile x = dealt("00", "0".repeat(zero + (pile + 1) / 2), "0".repeat(one + pile / 2));
            if (pile > 0) {
                x.lays(pile);
            }
            return x;
        };
    }

    /** Stirred, and dealt up to 16 cards. */
    static BeggarPile sixteen() {
        BeggarPile x = stirred();
        deal(x, 0, "05");
        deal(x, 1, "40");
        x.lays(1);
        return x;
    }

    /** Stirred, and played to its end. */
    static BeggarPile done() {
        BeggarPile x = stirred();
        x.lays(60);
        return x;
    }

    /** The endless game behind just so many moves. */
    static BeggarPile at(int moves) {
        BeggarPile x = endless();
        for (int left = moves; left > 0; left -= 60) {
            x.lays(Math.min(60, left));
        }
        return x;
    }

    /** No move is left of the 9999. */
    static BeggarPile spent() {
        return at(9999);
    }

    static void fillNotes(BeggarPile x) {
        for (int n = 1; n <= 6; n++) {
            x.note(n, 1 + n % 3);
        }
    }

    static void fillMarks(BeggarPile x) {
        for (int k = 0; k < 6; k++) {
            x.mark(k % 2, 6, k, 5 - k);
        }
    }

    /** Stirred, with six notes and six marks. */
    static BeggarPile knowing() {
        BeggarPile x = stirred();
        x.forget(0);
        x.forget(1);
        fillNotes(x);
        fillMarks(x);
        return x;
    }

    /** Stirred, with another text. */
    static Supplier<BeggarPile> telling(String text) {
        return () -> {
            BeggarPile x = stirred();
            x.clear();
            type(x, text);
            return x;
        };
    }
}
