import java.lang.reflect.Method;
import java.util.ArrayList;
import java.util.LinkedHashMap;
import java.util.List;
import java.util.Map;
import java.util.Random;

/** Long runs of calls, made by a seed, on the class and on the model: each answer must be the same, each digest too. */
public final class ModelTests {
    private static final int CALLS = 512;
    private static final int[] EDGES = {Integer.MIN_VALUE, -11, -10, -3, -2, -1, 0, 1, 2, 3, 4, 5, 6, 7, 8, 9, 10, 13, 14,
        15, 16, 17, 30, 31, 36, 60, 61, 99, 127, 128, 999999, 1000000, Integer.MAX_VALUE};
    /** How great the arguments of a call usually are, each from 0 on. */
    private static final Map<String, int[]> USUAL = new LinkedHashMap<>();
    /** Games that never end: kinds of players, hands. */
    private static final String[][] ENDLESS = {{"42", "001", "100"}, {"20", "0002", "200"}, {"23", "100", "001"}, {"54", "0505", "0002"},
        {"00", "0010", "3010"}, {"31", "050050", "05400"}, {"35", "000050", "02000"}, {"13", "0010000", "0000001"},
        {"33", "00010000", "0000030"}, {"11", "02001000", "00010000"}, {"55", "10100", "00550"}};
    private static final String[] WORDS = {"game", "hand", "lay", ";", "0", "1", "2", "5", "6", "00", "05", "12", "99", "100",
        "ga", "gamer", "Hand", "!", " ", "\t", "lay 5;", "hand 1 0;", "game 0 0;"};

    static {
        USUAL.put("game", new int[] {5, 5});
        USUAL.put("player", new int[] {1, 5});
        USUAL.put("deals", new int[] {1, 5});
        USUAL.put("type", new int[] {127});
        USUAL.put("clear", new int[] {});
        USUAL.put("read", new int[] {});
        USUAL.put("lays", new int[] {60});
        USUAL.put("exchanges", new int[] {7, 7});
        USUAL.put("undo", new int[] {});
        USUAL.put("card", new int[] {2, 12});
        USUAL.put("behind", new int[] {60, 4});
        USUAL.put("won", new int[] {});
        USUAL.put("lasts", new int[] {});
        USUAL.put("first", new int[] {1});
        USUAL.put("again", new int[] {});
        USUAL.put("exchange", new int[] {1, 1});
        USUAL.put("cut", new int[] {1, 1});
        USUAL.put("note", new int[] {16, 5});
        USUAL.put("mark", new int[] {1, 16, 15, 15});
        USUAL.put("forget", new int[] {1});
        USUAL.put("is", new int[] {});
        USUAL.put("look", new int[] {});
        USUAL.put("kinds", new int[] {1});
        USUAL.put("ask", new int[] {1});
        USUAL.put("against", new int[] {36});
        USUAL.put("luck", new int[] {1, 5});
        USUAL.put("evenings", new int[] {999999, 30});
        USUAL.put("part", new int[] {1});
        USUAL.put("image", new int[] {1});
        USUAL.put("from", new int[] {1});
        USUAL.put("status", new int[] {2});
        USUAL.put("count", new int[] {13});
        USUAL.put("digest", new int[] {});
    }

    private final Random random;
    private final BeggarPile x = new BeggarPile();
    private final Model model = new Model();
    private final List<String> told = new ArrayList<>();
    private int calls = 0;

    private ModelTests(long seed) {
        random = new Random(seed);
    }

    public static void main(String[] args) throws ReflectiveOperationException {
        int runs = args.length > 0 ? Integer.parseInt(args[0]) : 2000;
        long from = args.length > 1 ? Long.parseLong(args[1]) : 1;
        for (long seed = from; seed < from + runs && !Check.anyWrong(); seed++) {
            new ModelTests(seed).run(seed);
        }
        Check.end("ModelTests");
    }

    private void run(long seed) throws ReflectiveOperationException {
        List<String> names = new ArrayList<>(USUAL.keySet());
        while (calls < CALLS - 200 && !Check.anyWrong()) {
            int chance = random.nextInt(100);
            if (chance < 4) {
                dealAll();
            } else if (chance == 20 || chance == 21) {
                dealEndless();
            } else if (chance < 7) {
                writeAndRead();
            } else if (chance < 20) {
                call("lays", 1 + random.nextInt(random.nextBoolean() ? 3 : 60));
            } else if (chance < 24) {
                markAsIs(random.nextInt(2));
            } else if (chance < 28) {
                int n = 1 + random.nextInt(16);
                call("note", n, Model.CARDS[random.nextInt(3) == 0 ? random.nextInt(6) : 5].owes(n));
            } else {
                String name = names.get(random.nextInt(names.size()));
                call(name, argumentsFor(name));
            }
            call("digest");
        }
        for (int what = 0; what < 3; what++) {
            call("status", what);
        }
        if (Check.anyWrong()) {
            System.out.println("seed " + seed + ": " + told);
        }
    }

    private void dealAll() throws ReflectiveOperationException {
        call("game", random.nextInt(6), random.nextInt(6));
        int cards = 2 + random.nextInt(16);
        int numbers = random.nextInt(4);
        for (int i = 0; i < cards; i++) {
            int p = random.nextInt(8) == 0 ? random.nextInt(2) : i % 2;
            call("deals", p, random.nextInt(4) < numbers ? 0 : random.nextInt(6));
        }
    }

    private void dealEndless() throws ReflectiveOperationException {
        String[] game = ENDLESS[random.nextInt(ENDLESS.length)];
        call("game", game[0].charAt(0) - '0', game[0].charAt(1) - '0');
        for (int p = 0; p < 2; p++) {
            for (int i = 0; i < game[1 + p].length(); i++) {
                call("deals", p, game[1 + p].charAt(i) - '0');
            }
        }
        call("lays", 1 + random.nextInt(60));
    }

    private void writeAndRead() throws ReflectiveOperationException {
        StringBuilder text = new StringBuilder();
        text.append("game ").append(random.nextInt(6)).append(' ').append(random.nextInt(6)).append(';');
        int items = random.nextInt(6);
        for (int i = 0; i < items; i++) {
            if (random.nextInt(3) > 0) {
                text.append("hand ").append(i % 2);
                int cards = 1 + random.nextInt(random.nextInt(8) == 0 ? 10 : 6);
                for (int c = 0; c < cards; c++) {
                    text.append(' ').append(random.nextInt(6));
                }
                text.append(';');
            } else {
                text.append(random.nextInt(4) == 0 ? "  lay" : "lay ").append(random.nextInt(4) == 0 ? 99 : random.nextInt(9)).append(" ;");
            }
        }
        while (random.nextInt(5) < 2) {
            int at = random.nextInt(text.length() + 1);
            switch (random.nextInt(3)) {
                case 0: text.insert(at, WORDS[random.nextInt(WORDS.length)]); break;
                case 1: text.setLength(at); break;
                default: text.delete(at, Math.min(text.length(), at + 1 + random.nextInt(2)));
            }
        }
        call("clear");
        for (int i = 0; i < text.length() && calls < CALLS - 20; i++) {
            call("type", text.charAt(i));
        }
        call("read");
    }

    private void markAsIs(int p) throws ReflectiveOperationException {
        int n = 1 + random.nextInt(16);
        int k = random.nextInt(n);
        call("mark", p, n, k, Model.PLAYERS[random.nextInt(3) == 0 ? random.nextInt(6) : 4].comes(n, k));
    }

    private int[] argumentsFor(String name) {
        int[] usual = USUAL.get(name);
        int[] args = new int[usual.length];
        for (int i = 0; i < args.length; i++) {
            args[i] = random.nextInt(12) == 0 ? EDGES[random.nextInt(EDGES.length)] : random.nextInt(usual[i] + 1);
        }
        return args;
    }

    private void call(String name, int... args) throws ReflectiveOperationException {
        calls++;
        Class<?>[] types = new Class<?>[args.length];
        Object[] values = new Object[args.length];
        StringBuilder words = new StringBuilder(name).append('(');
        for (int i = 0; i < args.length; i++) {
            types[i] = int.class;
            values[i] = args[i];
            words.append(i == 0 ? "" : ", ").append(args[i]);
        }
        words.append(')');
        Method mine = BeggarPile.class.getMethod(name, types);
        Method its = Model.class.getMethod(name, types);
        its.setAccessible(true);
        told.add(words.toString());
        Check.due(words.toString(), ((Number) mine.invoke(x, values)).longValue(), ((Number) its.invoke(model, values)).longValue());
    }
}
