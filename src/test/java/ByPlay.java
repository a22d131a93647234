import java.util.ArrayList;
import java.util.List;
import java.util.function.Supplier;

/** What the questions about a game are due to answer, found by nothing but dealing, exchanging and laying cards. */
final class ByPlay {
    static final int MOVES = 0, WINNER = 1;
    private static final int WITHIN = 2000;

    private ByPlay() {
    }

    /** Behind how many moves it is done and who has won, or twice NONE; the object is used up by it. */
    static int[] end(BeggarPile x) {
        int moves = 0;
        int laid = x.lays(60);
        while (laid > 0 && moves <= WITHIN) {
            moves += laid;
            laid = x.lays(60);
        }
        if (moves > WITHIN) {
            return new int[] {BeggarPile.NONE, BeggarPile.NONE};
        }
        return new int[] {moves, 1 - x.count(3)};
    }

    /** The best choice and behind how many moves it wins, or twice NONE. */
    private static int[] sooner(int[] best, int[] end, int p, int choice) {
        boolean better = end[WINNER] == p && (best[1] == BeggarPile.NONE || end[MOVES] < best[1]);
        return better ? new int[] {choice, end[MOVES]} : best;
    }

    static int[] exchange(Supplier<BeggarPile> scene, int p) {
        int[] best = {BeggarPile.NONE, BeggarPile.NONE};
        int mine = scene.get().count(p);
        int others = scene.get().count(1 - p);
        for (int i = 0; i < mine; i++) {
            for (int j = 0; j < others; j++) {
                BeggarPile x = scene.get();
                x.exchanges(p == 0 ? i : j, p == 0 ? j : i);
                best = sooner(best, end(x), p, 100 * i + j);
            }
        }
        return best;
    }

    private static String turned(String hand, long by) {
        int cards = hand.isEmpty() ? 0 : (int) (by % hand.length());
        return hand.substring(cards) + hand.substring(0, cards);
    }

    static int[] cut(String[] game, int p) {
        int[] best = {BeggarPile.NONE, BeggarPile.NONE};
        for (int cards = 0; cards < game[1 + p].length(); cards++) {
            String[] cutGame = game.clone();
            cutGame[1 + p] = turned(game[1 + p], cards);
            best = sooner(best, end(Scenes.dealt(cutGame)), p, cards);
        }
        return best;
    }

    /** The pairs that rest, rising. */
    static List<Integer> against(Supplier<BeggarPile> scene) {
        int[][] gets = new int[6][6];
        for (int i = 0; i < 6; i++) {
            for (int j = 0; j < 6; j++) {
                BeggarPile x = scene.get();
                x.player(0, i);
                x.player(1, j);
                int winner = end(x)[WINNER];
                gets[i][j] = winner == BeggarPile.NONE ? 0 : 1 - 2 * winner;
            }
        }
        List<Integer> resting = new ArrayList<>();
        for (int pair = 0; pair < 36; pair++) {
            boolean rests = true;
            for (int other = 0; other < 6; other++) {
                rests = rests && gets[other][pair % 6] <= gets[pair / 6][pair % 6] && gets[pair / 6][other] >= gets[pair / 6][pair % 6];
            }
            if (rests) {
                resting.add(10 * (pair / 6) + pair % 6);
            }
        }
        return resting;
    }

    /** How many of all orders of the hand's first n cards win, and how many orders there are. */
    static long[] luck(String[] game, int p, int n) {
        String hand = game[1 + p];
        int cards = Math.min(n, hand.length());
        List<String> orders = new ArrayList<>();
        collect("", hand.substring(0, cards), orders);
        long won = 0;
        for (String order : orders) {
            String[] shuffled = game.clone();
            shuffled[1 + p] = order + hand.substring(cards);
            won += end(Scenes.dealt(shuffled))[WINNER] == p ? 1 : 0;
        }
        return new long[] {won, orders.size()};
    }

    private static void collect(String ahead, String left, List<String> orders) {
        if (left.isEmpty()) {
            orders.add(ahead);
        }
        for (int i = 0; i < left.length(); i++) {
            collect(ahead + left.charAt(i), left.substring(0, i) + left.substring(i + 1), orders);
        }
    }

    static int evenings(String[] game, int seed, int n) {
        java.math.BigInteger x = java.math.BigInteger.valueOf(seed);
        int won = 0;
        for (int i = 0; i < n; i++) {
            x = x.multiply(java.math.BigInteger.valueOf(1103515245)).add(java.math.BigInteger.valueOf(12345))
                    .mod(java.math.BigInteger.valueOf(2147483648L));
            String zero = turned(game[1], x.longValueExact() / 65536);
            String one = turned(game[2], x.longValueExact() / 1048576);
            won += end(Scenes.dealt(game[0], zero, one))[WINNER] == 0 ? 1 : 0;
        }
        return won;
    }
}
