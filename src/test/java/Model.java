import java.util.ArrayList;
import java.util.Arrays;
import java.util.List;
import java.util.regex.Matcher;
import java.util.regex.Pattern;

/**
 * The document once more, written for plainness alone and apart from the class under test: lists, copies, every
 * game played move by move to its limit. Runs of calls on both are compared by ModelTests.
 */
final class Model {
    static final int NONE = -1, BAD = -2, NO = -3, FULL = -4;

    // ---- kinds of cards, each under the one told

    static class NumberCard {
        int owes(int n) {
            return 0;
        }
    }

    static class Knave extends NumberCard {
        @Override
        int owes(int n) {
            return 1;
        }
    }

    static class Queen extends Knave {
        @Override
        int owes(int n) {
            return super.owes(n) + 1;
        }
    }

    static class King extends Queen {
        @Override
        int owes(int n) {
            return super.owes(n) + 1;
        }
    }

    static class Ace extends King {
        @Override
        int owes(int n) {
            return super.owes(n) + 1;
        }
    }

    static class Joker extends Knave {
        @Override
        int owes(int n) {
            return super.owes(n) + n % 3;
        }
    }

    static final NumberCard[] CARDS = {new NumberCard(), new Knave(), new Queen(), new King(), new Ace(), new Joker()};

    // ---- kinds of players, each under the one told

    static class Plain {
        int comes(int n, int k) {
            return k;
        }
    }

    static class Turner extends Plain {
        @Override
        int comes(int n, int k) {
            return n - 1 - k;
        }
    }

    static class Cutter extends Plain {
        @Override
        int comes(int n, int k) {
            return (super.comes(n, k) + n / 2) % n;
        }
    }

    static class Stepper extends Plain {
        @Override
        int comes(int n, int k) {
            List<Integer> order = new ArrayList<>();
            for (int c = 0; c < n; c += 2) {
                order.add(c);
            }
            for (int c = 1; c < n; c += 2) {
                order.add(c);
            }
            return order.get(k);
        }
    }

    static class Roller extends Turner {
        @Override
        int comes(int n, int k) {
            return (super.comes(n, k) + n / 2) % n;
        }
    }

    static class Pairs extends Plain {
        @Override
        int comes(int n, int k) {
            int partner = k ^ 1;
            return partner < n ? partner : k;
        }
    }

    static final Plain[] PLAYERS = {new Plain(), new Turner(), new Cutter(), new Stepper(), new Roller(), new Pairs()};

    /** Two hands, a pile, a turn, a debt. */
    static final class Play {
        List<Integer> zero = new ArrayList<>();
        List<Integer> one = new ArrayList<>();
        List<Integer> pile = new ArrayList<>();
        int turn;
        int debt;
        int moves;
        int[] taken = new int[2];
        int[] kind = new int[2];

        Play copy() {
            Play c = new Play();
            c.zero = new ArrayList<>(zero);
            c.one = new ArrayList<>(one);
            c.pile = new ArrayList<>(pile);
            c.turn = turn;
            c.debt = debt;
            c.moves = moves;
            c.taken = taken.clone();
            c.kind = kind.clone();
            return c;
        }

        List<Integer> hand(int p) {
            return p == 0 ? zero : p == 1 ? one : pile;
        }

        int cards() {
            return zero.size() + one.size() + pile.size();
        }

        boolean done() {
            return hand(turn).isEmpty();
        }

        boolean lies(Play o) {
            return zero.equals(o.zero) && one.equals(o.one) && pile.equals(o.pile) && turn == o.turn && debt == o.debt;
        }

        void step() {
            int me = turn;
            int him = 1 - turn;
            int card = hand(me).remove(0);
            pile.add(card);
            moves++;
            int owed = CARDS[card].owes(pile.size());
            if (owed > 0) {
                debt = owed;
                turn = him;
                return;
            }
            if (debt == 0) {
                turn = him;
                return;
            }
            debt--;
            if (debt == 0) {
                for (int k = 0; k < pile.size(); k++) {
                    hand(him).add(pile.get(PLAYERS[kind[him]].comes(pile.size(), k)));
                }
                pile.clear();
                taken[him]++;
                turn = him;
            }
        }

        /** Behind how many moves it is done, and who has won: {-1, -1} if not within 2000. */
        int[] end() {
            Play c = copy();
            for (int m = 0; m <= 2000; m++) {
                if (c.done()) {
                    return new int[] {m, 1 - c.turn};
                }
                c.step();
            }
            return new int[] {-1, -1};
        }

        Play behind(int m) {
            Play c = copy();
            for (int i = 0; i < m; i++) {
                if (!c.done()) {
                    c.step();
                }
            }
            return c;
        }
    }

    /** What an image keeps. */
    static final class Whole {
        Play play = new Play();
        List<int[]> notes = new ArrayList<>();
        List<int[]> marks = new ArrayList<>();
        List<Play> past = new ArrayList<>();

        Whole copy() {
            Whole c = new Whole();
            c.play = play.copy();
            c.notes = new ArrayList<>(notes);
            c.marks = new ArrayList<>(marks);
            for (Play p : past) {
                c.past.add(p.copy());
            }
            return c;
        }
    }

    private Whole now = new Whole();
    private final Whole[] images = new Whole[2];
    private final StringBuilder text = new StringBuilder();
    private long above = 0;
    private long below = 1;
    private final int[] refused = new int[3];

    private int bad() {
        refused[0]++;
        return BAD;
    }

    private int no() {
        refused[1]++;
        return NO;
    }

    private int full() {
        refused[2]++;
        return FULL;
    }

    private static boolean in(int x, int a, int b) {
        return a <= x && x <= b;
    }

    public int game(int zero, int one) {
        if (!in(zero, 0, 5) || !in(one, 0, 5)) {
            return bad();
        }
        int had = now.play.cards();
        now = new Whole();
        now.play.kind = new int[] {zero, one};
        return had;
    }

    public int player(int p, int kind) {
        if (!in(p, 0, 1) || !in(kind, 0, 5)) {
            return bad();
        }
        int was = now.play.kind[p];
        now.play.kind[p] = kind;
        now.past.clear();
        return was;
    }

    public int deals(int p, int kind) {
        if (!in(p, 0, 1) || !in(kind, 0, 5)) {
            return bad();
        }
        if (now.play.cards() == 16) {
            return full();
        }
        now.play.hand(p).add(kind);
        now.past.clear();
        return now.play.hand(p).size();
    }

    public int type(int c) {
        if (!in(c, 0, 127)) {
            return bad();
        }
        if (text.length() == 150) {
            return full();
        }
        text.append((char) c);
        return text.length();
    }

    public int clear() {
        int had = text.length();
        text.setLength(0);
        return had;
    }

    private static final Pattern TOKEN = Pattern.compile("[a-z]+|[0-9]+|;| +|.", Pattern.DOTALL);

    public int read() {
        Whole fresh = new Whole();
        Matcher m = TOKEN.matcher(text);
        String item = "";
        int said = 0;
        int items = 0;
        int owner = 0;
        while (m.find()) {
            String t = m.group();
            if (t.startsWith(" ")) {
                continue;
            }
            boolean figures = t.matches("[0-9]{1,2}");
            int value = figures ? Integer.parseInt(t) : -1;
            boolean stands;
            if (item.isEmpty()) {
                stands = items == 0 ? t.equals("game") : t.equals("hand") || t.equals("lay");
                item = t;
                said = 0;
            } else if (t.equals(";")) {
                stands = item.equals("lay") ? said == 1 : item.equals("game") ? said == 2 : said >= 2;
                items++;
                item = "";
            } else if (item.equals("game")) {
                stands = figures && value <= 5 && said < 2;
                if (stands) {
                    fresh.play.kind[said++] = value;
                }
            } else if (item.equals("lay")) {
                stands = figures && value >= 1 && said == 0;
                said++;
                for (int i = 0; stands && i < value; i++) {
                    if (!fresh.play.done()) {
                        fresh.play.step();
                    }
                }
            } else if (said == 0) {
                stands = figures && value <= 1;
                owner = value;
                said++;
            } else {
                stands = figures && value <= 5 && said <= 9 && fresh.play.cards() < 16;
                if (stands) {
                    fresh.play.hand(owner).add(value);
                }
                said++;
            }
            if (!stands) {
                return -10 - m.start();
            }
        }
        if (items == 0 || !item.isEmpty()) {
            return -10 - text.length();
        }
        now = fresh;
        return items;
    }

    private void remember() {
        now.past.add(now.play.copy());
        if (now.past.size() > 8) {
            now.past.remove(0);
        }
    }

    public int lays(int n) {
        if (!in(n, 1, 60)) {
            return bad();
        }
        if (now.play.done() || now.play.moves == 9999) {
            return no();
        }
        remember();
        int laid = 0;
        while (laid < n && !now.play.done() && now.play.moves < 9999) {
            now.play.step();
            laid++;
        }
        return laid;
    }

    public int exchanges(int i, int j) {
        if (!in(i, 0, now.play.zero.size() - 1) || !in(j, 0, now.play.one.size() - 1)) {
            return bad();
        }
        remember();
        int a = now.play.zero.get(i);
        int b = now.play.one.get(j);
        now.play.zero.set(i, b);
        now.play.one.set(j, a);
        return 10 * b + a;
    }

    public int undo() {
        if (now.past.isEmpty()) {
            return no();
        }
        now.play = now.past.remove(now.past.size() - 1);
        return now.play.moves;
    }

    public int card(int p, int place) {
        if (!in(p, 0, 2) || !in(place, 0, now.play.hand(p).size() - 1)) {
            return bad();
        }
        return now.play.hand(p).get(place);
    }

    public int behind(int m, int what) {
        if (!in(m, 0, 60) || !in(what, 0, 4)) {
            return bad();
        }
        Play c = now.play.behind(m);
        return what == 3 ? c.turn : what == 4 ? c.debt : c.hand(what).size();
    }

    public int won() {
        return now.play.end()[1];
    }

    public int lasts() {
        return now.play.end()[0];
    }

    public int first(int what) {
        if (!in(what, 0, 1)) {
            return bad();
        }
        for (int m = 1; m <= 200; m++) {
            Play c = now.play.behind(m);
            for (int p = 0; p < 2; p++) {
                if (c.taken[p] > now.play.taken[p]) {
                    return what == 0 ? m : p;
                }
            }
        }
        return NONE;
    }

    public int again() {
        Play c = now.play.copy();
        for (int m = 1; m <= 500; m++) {
            if (c.done()) {
                return NONE;
            }
            c.step();
            if (c.lies(now.play)) {
                return m;
            }
        }
        return NONE;
    }

    public int exchange(int p, int what) {
        if (!in(p, 0, 1) || !in(what, 0, 1)) {
            return bad();
        }
        int[] best = {NONE, NONE};
        for (int i = 0; i < now.play.hand(p).size(); i++) {
            for (int j = 0; j < now.play.hand(1 - p).size(); j++) {
                Play c = now.play.copy();
                int mine = c.hand(p).get(i);
                c.hand(p).set(i, c.hand(1 - p).get(j));
                c.hand(1 - p).set(j, mine);
                better(best, c.end(), p, 100 * i + j);
            }
        }
        return best[what];
    }

    private static void better(int[] best, int[] end, int p, int choice) {
        if (end[1] == p && (best[0] == NONE || end[0] < best[1])) {
            best[0] = choice;
            best[1] = end[0];
        }
    }

    private static void putBehind(List<Integer> hand, long cards) {
        for (long i = 0; i < cards; i++) {
            hand.add(hand.remove(0));
        }
    }

    public int cut(int p, int what) {
        if (!in(p, 0, 1) || !in(what, 0, 1)) {
            return bad();
        }
        int[] best = {NONE, NONE};
        for (int i = 0; i < now.play.hand(p).size(); i++) {
            Play c = now.play.copy();
            putBehind(c.hand(p), i);
            better(best, c.end(), p, i);
        }
        return best[what];
    }

    public int note(int n, int x) {
        if (!in(n, 1, 16) || !in(x, 0, 9)) {
            return bad();
        }
        if (now.notes.size() == 6) {
            return full();
        }
        now.notes.add(new int[] {n, x});
        return now.notes.size();
    }

    public int mark(int p, int n, int k, int x) {
        if (!in(p, 0, 1) || !in(n, 1, 16) || !in(k, 0, n - 1) || !in(x, 0, 15)) {
            return bad();
        }
        if (now.marks.size() == 6) {
            return full();
        }
        now.marks.add(new int[] {p, n, k, x});
        return now.marks.size();
    }

    public int forget(int what) {
        if (!in(what, 0, 1)) {
            return bad();
        }
        List<int[]> seen = what == 0 ? now.notes : now.marks;
        int had = seen.size();
        seen.clear();
        return had;
    }

    public int is() {
        int bits = 0;
        for (int kind = 0; kind < 6; kind++) {
            final int which = kind;
            if (now.notes.stream().allMatch(v -> CARDS[which].owes(v[0]) == v[1])) {
                bits += 1 << kind;
            }
        }
        return bits;
    }

    /** The size of the greatest group of kinds of these bits that have the same answer. */
    private static int greatestGroup(int bits, int[] answers) {
        int[] groups = new int[32];
        for (int kind = 0; kind < 6; kind++) {
            if ((bits & 1 << kind) != 0) {
                groups[answers[kind]]++;
            }
        }
        return Arrays.stream(groups).max().getAsInt();
    }

    public int look() {
        int bits = is();
        int best = NONE;
        int fewest = 99;
        for (int n = 16; n >= 1 && bits != 0; n--) {
            int[] answers = new int[6];
            for (int kind = 0; kind < 6; kind++) {
                answers[kind] = CARDS[kind].owes(n);
            }
            int most = greatestGroup(bits, answers);
            if (most <= fewest) {
                fewest = most;
                best = n;
            }
        }
        return best;
    }

    private int what(int p) {
        int bits = 0;
        for (int kind = 0; kind < 6; kind++) {
            final int which = kind;
            if (now.marks.stream().allMatch(v -> v[0] != p || PLAYERS[which].comes(v[1], v[2]) == v[3])) {
                bits += 1 << kind;
            }
        }
        return bits;
    }

    public int kinds(int p) {
        return in(p, 0, 1) ? what(p) : bad();
    }

    public int ask(int p) {
        if (!in(p, 0, 1)) {
            return bad();
        }
        int bits = what(p);
        int best = NONE;
        int fewest = 99;
        for (int nk = 1615; nk >= 100 && bits != 0; nk--) {
            int n = nk / 100;
            int k = nk % 100;
            if (k >= n) {
                continue;
            }
            int[] answers = new int[6];
            for (int kind = 0; kind < 6; kind++) {
                answers[kind] = PLAYERS[kind].comes(n, k);
            }
            int most = greatestGroup(bits, answers);
            if (most <= fewest) {
                fewest = most;
                best = nk;
            }
        }
        return best;
    }

    public int against(int k) {
        if (k < -1) {
            refused[0]++;
            return -10;
        }
        int[][] gets = new int[6][6];
        for (int i = 0; i < 6; i++) {
            for (int j = 0; j < 6; j++) {
                Play c = now.play.copy();
                c.kind = new int[] {i, j};
                int winner = c.end()[1];
                gets[i][j] = winner == 0 ? 1 : winner == 1 ? -1 : 0;
            }
        }
        List<Integer> rest = new ArrayList<>();
        for (int i = 0; i < 6; i++) {
            for (int j = 0; j < 6; j++) {
                boolean rests = true;
                for (int o = 0; o < 6; o++) {
                    rests &= gets[o][j] <= gets[i][j];
                    rests &= gets[i][o] >= gets[i][j];
                }
                if (rests) {
                    rest.add(10 * i + j);
                }
            }
        }
        return k == -1 ? rest.size() : k < rest.size() ? rest.get(k) : -5;
    }

    private static void orders(List<Integer> ahead, List<Integer> left, List<List<Integer>> all) {
        if (left.isEmpty()) {
            all.add(ahead);
        }
        for (int i = 0; i < left.size(); i++) {
            List<Integer> longer = new ArrayList<>(ahead);
            List<Integer> fewer = new ArrayList<>(left);
            longer.add(fewer.remove(i));
            orders(longer, fewer, all);
        }
    }

    public int luck(int p, int n) {
        if (!in(p, 0, 1) || !in(n, 0, 5)) {
            return bad();
        }
        List<Integer> hand = now.play.hand(p);
        int m = Math.min(n, hand.size());
        List<List<Integer>> all = new ArrayList<>();
        orders(new ArrayList<>(), hand.subList(0, m), all);
        int wins = 0;
        for (List<Integer> order : all) {
            Play c = now.play.copy();
            for (int i = 0; i < m; i++) {
                c.hand(p).set(i, order.get(i));
            }
            if (c.end()[1] == p) {
                wins++;
            }
        }
        java.math.BigInteger common = java.math.BigInteger.valueOf(wins).gcd(java.math.BigInteger.valueOf(all.size()));
        above = wins / common.intValue();
        below = all.size() / common.intValue();
        return 1;
    }

    public int evenings(int seed, int n) {
        if (!in(seed, 0, 999999) || !in(n, 0, 30)) {
            return bad();
        }
        java.math.BigInteger x = java.math.BigInteger.valueOf(seed);
        int wins = 0;
        for (int i = 0; i < n; i++) {
            x = x.multiply(java.math.BigInteger.valueOf(1103515245)).add(java.math.BigInteger.valueOf(12345))
                    .mod(java.math.BigInteger.valueOf(2147483648L));
            Play c = now.play.copy();
            for (int p = 0; p < 2; p++) {
                long by = x.longValueExact() / (p == 0 ? 65536 : 1048576);
                if (!c.hand(p).isEmpty()) {
                    putBehind(c.hand(p), by % c.hand(p).size());
                }
            }
            if (c.end()[1] == 0) {
                wins++;
            }
        }
        return wins;
    }

    public long part(int what) {
        return what == 0 ? above : what == 1 ? below : bad();
    }

    public int image(int i) {
        if (!in(i, 0, 1)) {
            return bad();
        }
        images[i] = now.copy();
        return 1;
    }

    public int from(int i) {
        if (!in(i, 0, 1)) {
            return bad();
        }
        if (images[i] == null) {
            return no();
        }
        now = images[i].copy();
        return 1;
    }

    public int status(int what) {
        if (!in(what, 0, 2)) {
            refused[0]++;
            return -1;
        }
        return refused[what];
    }

    public int count(int what) {
        switch (what) {
            case 0: return now.play.zero.size();
            case 1: return now.play.one.size();
            case 2: return now.play.pile.size();
            case 3: return now.play.turn;
            case 4: return now.play.debt;
            case 5: return now.play.moves;
            case 6: return now.play.taken[0];
            case 7: return now.play.taken[1];
            case 8: return now.play.kind[0];
            case 9: return now.play.kind[1];
            case 10: return now.notes.size();
            case 11: return now.marks.size();
            case 12: return now.past.size();
            case 13: return text.length();
            default: return bad();
        }
    }

    public long digest() {
        List<Long> values = new ArrayList<>();
        for (int what = 0; what <= 13; what++) {
            values.add((long) count(what));
        }
        for (int p = 0; p < 3; p++) {
            for (int card : now.play.hand(p)) {
                values.add((long) card);
            }
        }
        for (int[] v : now.notes) {
            for (int x : v) {
                values.add((long) x);
            }
        }
        for (int[] v : now.marks) {
            for (int x : v) {
                values.add((long) x);
            }
        }
        values.add(above);
        values.add(below);
        long h = 1871;
        for (long v : values) {
            h = 31 * h + v;
        }
        return h;
    }
}
