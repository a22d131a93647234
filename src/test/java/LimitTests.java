import java.lang.reflect.Field;
import java.lang.reflect.Method;

/**
 * The limits 2000, 200 and 500. No game of 16 cards is known that comes near them (a pile of 16 is taken behind 16 moves
 * at the latest), so that no call shows them: these tests look inside the class, and go with it when it is made otherwise.
 */
public final class LimitTests {
    private static final String TRIAL = "BeggarPile$Trial";

    private LimitTests() {
    }

    public static void main(String[] args) {
        Edge.test(13, "WON within 2000 MOVES", () -> Check.due("the limit", limit("WITHIN"), 2000));
        Edge.test(14, "LASTS: (0 .. 2000)", () -> {
            endsWithin(0, "00", "", "5");
            endsWithin(1, "00", "5", "");
            endsWithin(40, "24", "0012400", "3000051");
            endsWithin(554, "05", "1", "00000020001000");
            endsWithin(686, "04", "010101", "0010010400");
        });
        Edge.test(15, "FIRST: (1 .. 200)", () -> Check.due("the limit", limit("FIRST_WITHIN"), 200));
        Edge.test(16, "AGAIN: (1 .. 500)", () -> Check.due("the limit", limit("ROUND_WITHIN"), 500));
        Edge.end("LimitTests", 13, 16);
    }

    private static int limit(String name) {
        try {
            Field limit = Class.forName(TRIAL).getDeclaredField(name);
            limit.setAccessible(true);
            return limit.getInt(null);
        } catch (ReflectiveOperationException e) {
            throw new IllegalStateException(e);
        }
    }

    /** A game that lasts so many moves is played out within just so many, and not within one less. */
    private static void endsWithin(int moves, String... game) {
        BeggarPile x = Scenes.dealt(game);
        Check.due("lasts()", x.lasts(), moves);
        Check.due("played out within " + moves, playedOut(x, moves), moves);
        Check.due("played out within one more", playedOut(x, moves + 1), moves);
        Check.due("played out within one less", playedOut(x, moves - 1), BeggarPile.NONE);
    }

    private static int playedOut(BeggarPile x, int limit) {
        try {
            Object trial = part(x, "trial");
            Object table = part(trial, "table");
            Method copy = table.getClass().getDeclaredMethod("copyFrom", table.getClass());
            copy.setAccessible(true);
            copy.invoke(table, part(part(x, "now"), "table"));
            Method playOut = trial.getClass().getDeclaredMethod("playOut", int.class);
            playOut.setAccessible(true);
            return (Integer) playOut.invoke(trial, limit);
        } catch (ReflectiveOperationException e) {
            throw new IllegalStateException(e);
        }
    }

    private static Object part(Object whole, String name) throws ReflectiveOperationException {
        Field field = whole.getClass().getDeclaredField(name);
        field.setAccessible(true);
        return field.get(whole);
    }
}
