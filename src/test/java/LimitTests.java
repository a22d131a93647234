import java.lang.reflect.Field;
import java.lang.reflect.Method;

/**
 * The limits 2000, 200 and 500. No game of 16 cards is known that comes near them (a pile of 16 is taken behind 16 moves
 * at the latest), so that no call shows them: these tests look inside the class, and go with it when it is made otherwise.
 */
public final class LimitTests {
    private static final String TRIAL = "BeggarPile$Trial";

    private LimitTests() {
    }

    public static void main(String[] args) {
        Edge.test(13, "WON within 2000 MOVES", () -> Check.due("the limit", limit("WITHIN"), 2000));
        Edge.test(14, "LASTS: (0 .. 2000)", () -> {
            endsWithin(0, "00", "", "5");
            endsWithin(1, "00", "5", "");
            endsWithin(40, "24", "0012400", "3000051");
            endsWithin(554, "05", "1", "00000020001000");
            endsWithin(686, "04", "010101", "0010010400");
        });
        Edge.test(15, "FIRST: (1 .. 200)", () -> {
            Check.due("the limit", limit("FIRST_WITHIN"), 200);
            takenWithin(2, 0, "00", "1", "0");
            takenWithin(5, 0, "24", "0012400", "3000051");
            takenWithin(16, 0, "00", "00000001", "00000000");
        });
        Edge.test(16, "AGAIN: (1 .. 500)", () -> {
            Check.due("the limit", limit("ROUND_WITHIN"), 500);
            roundWithin(6, "42", "001", "100");
            roundWithin(242, "44", "000000002040", "20");
            roundWithin(420, "22", "5500252", "252500252");
        });
        Edge.end("LimitTests", 13, 16);
    }

    private static int limit(String name) {
        try {
            Field limit = Class.forName(TRIAL).getDeclaredField(name);
            limit.setAccessible(true);
            return limit.getInt(null);
        } catch (ReflectiveOperationException e) {
            throw new IllegalStateException(e);
        }
    }

    /** A game that lasts so many moves is played out within just so many, and not within one less. */
    private static void endsWithin(int moves, String... game) {
        BeggarPile x = Scenes.dealt(game);
        Check.due("lasts()", x.lasts(), moves);
        Check.due("played out within " + moves, playedOut(x, moves), moves);
        Check.due("played out within one more", playedOut(x, moves + 1), moves);
        Check.due("played out within one less", playedOut(x, moves - 1), BeggarPile.NONE);
    }

    /** A pile that is first taken behind so many moves is taken within just so many, and not within one less. */
    private static void takenWithin(int moves, int by, String... game) {
        BeggarPile x = Scenes.dealt(game);
        Check.due("first(0)", x.first(0), moves);
        Check.due("first(1)", x.first(1), by);
        Check.due("taken within " + moves, taken(x, moves, false), moves);
        Check.due("by whom within " + moves, taken(x, moves, true), by);
        Check.due("taken within one less", taken(x, moves - 1, false), BeggarPile.NONE);
        Check.due("by whom within one less", taken(x, moves - 1, true), BeggarPile.NONE);
    }

    /** A round of so many moves is found within just so many, and not within one less. */
    private static void roundWithin(int moves, String... game) {
        BeggarPile x = Scenes.dealt(game);
        Check.due("again()", x.again(), moves);
        Check.due("round within " + moves, round(x, moves), moves);
        Check.due("round within one more", round(x, moves + 1), moves);
        Check.due("round within one less", round(x, moves - 1), BeggarPile.NONE);
    }

    private static int playedOut(BeggarPile x, int limit) {
        try {
            Object trial = part(x, "trial");
            Object table = part(trial, "table");
            opened(table, "copyFrom", table.getClass()).invoke(table, table(x));
            return (Integer) opened(trial, "playOut", int.class).invoke(trial, limit);
        } catch (ReflectiveOperationException e) {
            throw new IllegalStateException(e);
        }
    }

    private static int taken(BeggarPile x, int limit, boolean byWhom) {
        try {
            Object trial = part(x, "trial");
            Object table = table(x);
            return (Integer) opened(trial, "takenWithin", table.getClass(), int.class, boolean.class).invoke(trial, table, limit, byWhom);
        } catch (ReflectiveOperationException e) {
            throw new IllegalStateException(e);
        }
    }

    private static int round(BeggarPile x, int limit) {
        try {
            Object trial = part(x, "trial");
            Object table = table(x);
            return (Integer) opened(trial, "roundWithin", table.getClass(), int.class).invoke(trial, table, limit);
        } catch (ReflectiveOperationException e) {
            throw new IllegalStateException(e);
        }
    }

    private static Object table(BeggarPile x) throws ReflectiveOperationException {
        return part(part(x, "now"), "table");
    }

    private static Object part(Object whole, String name) throws ReflectiveOperationException {
        Field field = whole.getClass().getDeclaredField(name);
        field.setAccessible(true);
        return field.get(whole);
    }

    private static Method opened(Object of, String name, Class<?>... numbers) throws ReflectiveOperationException {
        Method method = of.getClass().getDeclaredMethod(name, numbers);
        method.setAccessible(true);
        return method;
    }
}
