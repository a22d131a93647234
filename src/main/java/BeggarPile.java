/**
 * Beggar my neighbour with a joker, and with players who put the pile under in ways of their own.
 * The words in capitals are those of the document, which says under numbered promises what each call answers.
 */
public final class BeggarPile {
    public static final int NONE = -1, BAD = -2, NO = -3, FULL = -4;

    private static final int KNAVE = 1, QUEEN = 2, KING = 3, ACE = 4, JOKER = 5;
    private static final int PLAIN = 0, TURNER = 1, CUTTER = 2, STEPPER = 3, ROLLER = 4, PAIRS = 5;
    private static final int KINDS = 6;
    private static final int PILE = 2;

    private static final int MOST_CARDS = 16;
    private static final int MOST_MOVES = 9999;
    private static final int MOST_LAID = 60;
    private static final int MOST_BEHIND = 60;
    private static final int MOST_OWED_TOLD = 9;
    private static final int MOST_SHUFFLED = 5;
    private static final int MOST_EVENINGS = 30;
    private static final int MOST_SEED = 999999;

    private static final int NOT_SO_MANY = -5;
    private static final int BAD_AGAINST = -10;
    private static final int BAD_STATUS = -1;
    private static final int LAST_COUNT = 13;

    private final Game now = new Game();
    private final Table draft = new Table();
    private final Game[] images = new Game[2];
    private final Trial trial = new Trial();
    private final Text text = new Text();
    private final Reader reader = new Reader(text);
    private long above = 0;
    private long below = 1;
    private int badCalls = 0;
    private int noCalls = 0;
    private int fullCalls = 0;

    public BeggarPile() {
    }

    // ---- a game

    public int game(int zero, int one) {
        if (!isKind(zero) || !isKind(one)) {
            return refusedBad();
        }
        int had = now.table.cards();
        now.begin(zero, one);
        return had;
    }

    public int player(int p, int kind) {
        if (!isPlayer(p) || !isKind(kind)) {
            return refusedBad();
        }
        int was = now.table.kindOf(p);
        now.table.setKind(p, kind);
        now.history.empty();
        return was;
    }

    public int deals(int p, int kind) {
        if (!isPlayer(p) || !isKind(kind)) {
            return refusedBad();
        }
        if (!now.table.hasRoom()) {
            return refusedFull();
        }
        now.table.deal(p, kind);
        now.history.empty();
        return Rows.size(now.table.row(p));
    }

    public int type(int c) {
        if (!within(c, 0, 127)) {
            return refusedBad();
        }
        if (text.isFull()) {
            return refusedFull();
        }
        text.add(c);
        return text.size();
    }

    public int clear() {
        int had = text.size();
        text.empty();
        return had;
    }

    public int read() {
        int answer = reader.readInto(draft);
        if (answer >= 0) {
            now.beginAt(draft);
        }
        return answer;
    }

    // ---- cards laid

    public int lays(int n) {
        if (!within(n, 1, MOST_LAID)) {
            return refusedBad();
        }
        if (!now.table.mayMove()) {
            return refusedNo();
        }
        now.history.keep(now.table);
        return now.table.moveUpTo(n);
    }

    public int exchanges(int i, int j) {
        if (!now.table.hasPlace(0, i) || !now.table.hasPlace(1, j)) {
            return refusedBad();
        }
        now.history.keep(now.table);
        now.table.swapPlaces(i, j);
        return 10 * Rows.at(now.table.row(0), i) + Rows.at(now.table.row(1), j);
    }

    public int undo() {
        if (now.history.size() == 0) {
            return refusedNo();
        }
        now.history.bringBack(now.table);
        return now.table.moves;
    }

    public int card(int p, int place) {
        if (!within(p, 0, PILE) || !now.table.hasPlace(p, place)) {
            return refusedBad();
        }
        return Rows.at(now.table.row(p), place);
    }

    // ---- how it goes

    public int behind(int m, int what) {
        if (!within(m, 0, MOST_BEHIND) || !within(what, 0, 4)) {
            return refusedBad();
        }
        return trial.numberBehind(now.table, m, what);
    }

    public int won() {
        return trial.winner(now.table);
    }

    public int lasts() {
        return trial.length(now.table);
    }

    public int first(int what) {
        if (!within(what, 0, 1)) {
            return refusedBad();
        }
        return trial.firstTaken(now.table, what == 1);
    }

    public int again() {
        return trial.comesRound(now.table);
    }

    public int exchange(int p, int what) {
        if (!isPlayer(p) || !within(what, 0, 1)) {
            return refusedBad();
        }
        trial.seekExchange(now.table, p);
        return what == 0 ? trial.bestChoice : trial.bestMoves;
    }

    public int cut(int p, int what) {
        if (!isPlayer(p) || !within(what, 0, 1)) {
            return refusedBad();
        }
        trial.seekCut(now.table, p);
        return what == 0 ? trial.bestChoice : trial.bestMoves;
    }

    // ---- what it is

    public int note(int n, int x) {
        if (!within(n, 1, MOST_CARDS) || !within(x, 0, MOST_OWED_TOLD)) {
            return refusedBad();
        }
        if (now.notes.isFull()) {
            return refusedFull();
        }
        now.notes.add(0, n, 0, x);
        return now.notes.size();
    }

    public int mark(int p, int n, int k, int x) {
        if (!isPlayer(p) || !within(n, 1, MOST_CARDS) || !within(k, 0, n - 1) || !within(x, 0, MOST_CARDS - 1)) {
            return refusedBad();
        }
        if (now.marks.isFull()) {
            return refusedFull();
        }
        now.marks.add(p, n, k, x);
        return now.marks.size();
    }

    public int forget(int what) {
        if (!within(what, 0, 1)) {
            return refusedBad();
        }
        Seen seen = what == 0 ? now.notes : now.marks;
        int had = seen.size();
        seen.empty();
        return had;
    }

    public int is() {
        return Guess.cardKinds(now.notes);
    }

    public int look() {
        return Guess.bestLook(Guess.cardKinds(now.notes));
    }

    public int kinds(int p) {
        if (!isPlayer(p)) {
            return refusedBad();
        }
        return Guess.playerKinds(now.marks, p);
    }

    public int ask(int p) {
        if (!isPlayer(p)) {
            return refusedBad();
        }
        return Guess.bestAsk(Guess.playerKinds(now.marks, p));
    }

    public int against(int k) {
        if (k < NONE) {
            badCalls++;
            return BAD_AGAINST;
        }
        trial.playAllKinds(now.table);
        return k == NONE ? trial.howManyRest() : trial.restingPair(k);
    }

    public int luck(int p, int n) {
        if (!isPlayer(p) || !within(n, 0, MOST_SHUFFLED)) {
            return refusedBad();
        }
        int shuffled = Math.min(n, Rows.size(now.table.row(p)));
        setFraction(trial.ordersWon(now.table, p, shuffled), Trial.ordersOf(shuffled));
        return 1;
    }

    public int evenings(int seed, int n) {
        if (!within(seed, 0, MOST_SEED) || !within(n, 0, MOST_EVENINGS)) {
            return refusedBad();
        }
        return trial.eveningsWon(now.table, seed, n);
    }

    // ---- what there is

    public long part(int what) {
        if (!within(what, 0, 1)) {
            return refusedBad();
        }
        return what == 0 ? above : below;
    }

    public int image(int i) {
        if (!within(i, 0, images.length - 1)) {
            return refusedBad();
        }
        Game kept = images[i];
        if (kept == null) {
            kept = new Game();
            images[i] = kept;
        }
        kept.copyFrom(now);
        return 1;
    }

    public int from(int i) {
        if (!within(i, 0, images.length - 1)) {
            return refusedBad();
        }
        Game kept = images[i];
        if (kept == null) {
            return refusedNo();
        }
        now.copyFrom(kept);
        return 1;
    }

    public int status(int what) {
        switch (what) {
            case 0: return badCalls;
            case 1: return noCalls;
            case 2: return fullCalls;
            default:
                badCalls++;
                return BAD_STATUS;
        }
    }

    public int count(int what) {
        if (!within(what, 0, LAST_COUNT)) {
            return refusedBad();
        }
        return numberOf(what);
    }

    public long digest() {
        long h = 1871;
        for (int what = 0; what <= LAST_COUNT; what++) {
            h = 31 * h + numberOf(what);
        }
        for (int p = 0; p <= PILE; p++) {
            h = Rows.mixInto(h, now.table.row(p));
        }
        h = now.notes.mixInto(h, false);
        h = now.marks.mixInto(h, true);
        h = 31 * h + above;
        return 31 * h + below;
    }

    private int numberOf(int what) {
        switch (what) {
            case 10: return now.notes.size();
            case 11: return now.marks.size();
            case 12: return now.history.size();
            case 13: return text.size();
            default: return now.table.number(what);
        }
    }

    private void setFraction(int chances, int all) {
        int common = all;
        while (common > 1 && (chances % common != 0 || all % common != 0)) {
            common--;
        }
        if (common > 0) {
            above = chances / common;
            below = all / common;
        }
    }

    private int refusedBad() {
        badCalls++;
        return BAD;
    }

    private int refusedNo() {
        noCalls++;
        return NO;
    }

    private int refusedFull() {
        fullCalls++;
        return FULL;
    }

    private static boolean within(int x, int least, int most) {
        return x >= least && x <= most;
    }

    private static boolean isPlayer(int p) {
        return within(p, 0, 1);
    }

    private static boolean isKind(int kind) {
        return within(kind, 0, KINDS - 1);
    }

    /** How many are owed for a card of a kind that is the n-th of the pile. */
    private static int owedFor(int kind, int n) {
        switch (kind) {
            case KNAVE: return 1;
            case QUEEN: return 2;
            case KING: return 3;
            case ACE: return 4;
            case JOKER: return 1 + n % 3;
            default: return 0;
        }
    }

    /** Which card of a pile of n comes k-th under the hand of a player of a kind. */
    private static int comesAt(int kind, int n, int k) {
        switch (kind) {
            case TURNER: return n - 1 - k;
            case CUTTER: return halfOn(k, n);
            case STEPPER: return stepped(k, n);
            case ROLLER: return halfOn(n - 1 - k, n);
            case PAIRS: return paired(k, n);
            default: return k;
        }
    }

    private static int halfOn(int place, int n) {
        return n < 1 ? 0 : (place + n / 2) % n;
    }

    private static int stepped(int k, int n) {
        if (2 * k < n) {
            return 2 * k;
        }
        return n % 2 == 1 ? 2 * k - n : 2 * k - n + 1;
    }

    private static int paired(int k, int n) {
        if (k % 2 == 1) {
            return k - 1;
        }
        return k + 1 < n ? k + 1 : k;
    }

    /**
     * Rows of up to 16 cards, each row in one long: so a copy is an assignment, == compares two rows,
     * and no call makes an array. Three bits are a card's kind, the first card lowest; how many stands above them.
     */
    private static final class Rows {
        static final long EMPTY = 0;
        private static final int BITS = 3;
        private static final int SIZE_AT = BITS * MOST_CARDS;
        private static final long ONE_CARD = 1L << SIZE_AT;
        private static final long CARDS = ONE_CARD - 1;
        private static final long KIND = 7;

        static int size(long row) {
            return (int) (row >>> SIZE_AT);
        }

        static int at(long row, int place) {
            return (int) ((row >>> (BITS * place)) & KIND);
        }

        static long added(long row, int kind) {
            return (row | ((long) kind << (BITS * size(row)))) + ONE_CARD;
        }

        static long withoutFirst(long row) {
            return row == EMPTY ? EMPTY : ((row & CARDS) >>> BITS) | ((row & ~CARDS) - ONE_CARD);
        }

        static long put(long row, int place, int kind) {
            return (row & ~(KIND << (BITS * place))) | ((long) kind << (BITS * place));
        }

        /** The row with as many of its first cards put behind it as by says, round and round. */
        static long turned(long row, long by) {
            int size = size(row);
            int moved = size == 0 ? 0 : (int) (by % size);
            if (moved <= 0) {
                return row;
            }
            long cards = row & CARDS;
            long front = cards & ((1L << (BITS * moved)) - 1);
            return (row & ~CARDS) | (cards >>> (BITS * moved)) | (front << (BITS * (size - moved)));
        }

        /** The row with its first n cards in one of their n! orders: each code below n! names another one. */
        static long inOrder(long row, int n, int code) {
            long ordered = row;
            int rest = code;
            for (int place = 0; place < n; place++) {
                int choices = n - place;
                int chosen = place + rest % choices;
                int kind = at(ordered, chosen);
                ordered = put(ordered, chosen, at(ordered, place));
                ordered = put(ordered, place, kind);
                rest = rest / choices;
            }
            return ordered;
        }

        static long mixInto(long h, long row) {
            long mixed = h;
            for (int place = 0; place < size(row); place++) {
                mixed = 31 * mixed + at(row, place);
            }
            return mixed;
        }
    }

    /** The players, their hands, the pile, turn, debt and what was counted: all that a move may change. */
    private static final class Table {
        int turn = 0;
        int debt = 0;
        int moves = 0;
        private long handZero = Rows.EMPTY;
        private long handOne = Rows.EMPTY;
        private long pile = Rows.EMPTY;
        private int takenZero = 0;
        private int takenOne = 0;
        private int kindZero = PLAIN;
        private int kindOne = PLAIN;

        void begin(int zero, int one) {
            handZero = Rows.EMPTY;
            handOne = Rows.EMPTY;
            pile = Rows.EMPTY;
            turn = 0;
            debt = 0;
            takenZero = 0;
            takenOne = 0;
            moves = 0;
            kindZero = zero;
            kindOne = one;
        }

        void copyFrom(Table other) {
            handZero = other.handZero;
            handOne = other.handOne;
            pile = other.pile;
            turn = other.turn;
            debt = other.debt;
            takenZero = other.takenZero;
            takenOne = other.takenOne;
            moves = other.moves;
            kindZero = other.kindZero;
            kindOne = other.kindOne;
        }

        /** Whether the game goes on from here as from the other one: counts of moves and takings set apart. */
        boolean liesAs(Table other) {
            return handZero == other.handZero && handOne == other.handOne && pile == other.pile
                    && turn == other.turn && debt == other.debt;
        }

        long row(int p) {
            return p == 0 ? handZero : p == 1 ? handOne : pile;
        }

        void setHand(int p, long row) {
            if (p == 0) {
                handZero = row;
            } else {
                handOne = row;
            }
        }

        int kindOf(int p) {
            return p == 0 ? kindZero : kindOne;
        }

        void setKind(int p, int kind) {
            if (p == 0) {
                kindZero = kind;
            } else {
                kindOne = kind;
            }
        }

        int cards() {
            return Rows.size(handZero) + Rows.size(handOne) + Rows.size(pile);
        }

        boolean hasRoom() {
            return cards() < MOST_CARDS;
        }

        boolean hasPlace(int p, int place) {
            return place >= 0 && place < Rows.size(row(p));
        }

        /** The numbers that count tells under 0 .. 9. */
        int number(int what) {
            switch (what) {
                case 3: return turn;
                case 4: return debt;
                case 5: return moves;
                case 6: return takenZero;
                case 7: return takenOne;
                case 8: return kindZero;
                case 9: return kindOne;
                default: return Rows.size(row(what));
            }
        }

        void deal(int p, int kind) {
            if (hasRoom()) {
                setHand(p, Rows.added(row(p), kind));
            }
        }

        void swapPlaces(int i, int j) {
            int fromZero = Rows.at(handZero, i);
            int fromOne = Rows.at(handOne, j);
            handZero = Rows.put(handZero, i, fromOne);
            handOne = Rows.put(handOne, j, fromZero);
        }

        boolean isDone() {
            return row(turn) == Rows.EMPTY;
        }

        /** Who has won, once it is done. */
        int other() {
            return 1 - turn;
        }

        boolean mayMove() {
            return !isDone() && moves < MOST_MOVES;
        }

        int moveUpTo(int n) {
            int laid = 0;
            while (laid < n && mayMove()) {
                move();
                laid++;
            }
            return laid;
        }

        void move() {
            long hand = row(turn);
            int kind = Rows.at(hand, 0);
            setHand(turn, Rows.withoutFirst(hand));
            pile = Rows.added(pile, kind);
            moves++;
            int owed = owedFor(kind, Rows.size(pile));
            if (owed > 0) {
                debt = owed;
                turn = other();
            } else if (debt > 0) {
                debt--;
                if (debt == 0) {
                    turn = other();
                    takePile();
                }
            } else {
                turn = other();
            }
        }

        private void takePile() {
            int n = Rows.size(pile);
            int kind = kindOf(turn);
            long hand = row(turn);
            for (int k = 0; k < n; k++) {
                hand = Rows.added(hand, Rows.at(pile, comesAt(kind, n, k)));
            }
            setHand(turn, hand);
            pile = Rows.EMPTY;
            if (turn == 0) {
                takenZero++;
            } else {
                takenOne++;
            }
        }
    }

    /** The tables that undo may bring back, the oldest giving way. */
    private static final class History {
        private static final int MOST = 8;
        private final Table[] kept = new Table[MOST];
        private int oldest = 0;
        private int size = 0;

        History() {
            for (int i = 0; i < MOST; i++) {
                kept[i] = new Table();
            }
        }

        int size() {
            return size;
        }

        void empty() {
            oldest = 0;
            size = 0;
        }

        void keep(Table table) {
            if (size == MOST) {
                oldest = (oldest + 1) % MOST;
                size--;
            }
            copyTable(kept[(oldest + size) % MOST], table);
            size++;
        }

        void bringBack(Table table) {
            if (size > 0) {
                size--;
                copyTable(table, kept[(oldest + size) % MOST]);
            }
        }

        void copyFrom(History other) {
            oldest = other.oldest;
            size = other.size;
            for (int i = 0; i < MOST; i++) {
                copyTable(kept[i], other.kept[i]);
            }
        }

        private static void copyTable(Table into, Table source) {
            if (into != null && source != null) {
                into.copyFrom(source);
            }
        }
    }

    /** Notes or marks, as they came. A note leaves player and place at 0. */
    private static final class Seen {
        private static final int MOST = 6;
        private final int[] players = new int[MOST];
        private final int[] piles = new int[MOST];
        private final int[] places = new int[MOST];
        private final int[] told = new int[MOST];
        private int size = 0;

        int size() {
            return size;
        }

        boolean isFull() {
            return size >= MOST;
        }

        void empty() {
            size = 0;
        }

        void add(int p, int n, int k, int x) {
            if (!isFull()) {
                players[size] = p;
                piles[size] = n;
                places[size] = k;
                told[size] = x;
                size++;
            }
        }

        boolean allOwed(int kind) {
            for (int i = 0; i < size; i++) {
                if (owedFor(kind, piles[i]) != told[i]) {
                    return false;
                }
            }
            return true;
        }

        boolean allCame(int kind, int p) {
            for (int i = 0; i < size; i++) {
                if (players[i] == p && comesAt(kind, piles[i], places[i]) != told[i]) {
                    return false;
                }
            }
            return true;
        }

        long mixInto(long h, boolean marks) {
            long mixed = h;
            for (int i = 0; i < size; i++) {
                mixed = marks ? 31 * mixed + players[i] : mixed;
                mixed = 31 * mixed + piles[i];
                mixed = marks ? 31 * mixed + places[i] : mixed;
                mixed = 31 * mixed + told[i];
            }
            return mixed;
        }

        void copyFrom(Seen other) {
            size = other.size;
            for (int i = 0; i < MOST; i++) {
                players[i] = other.players[i];
                piles[i] = other.piles[i];
                places[i] = other.places[i];
                told[i] = other.told[i];
            }
        }
    }

    /** All that an image keeps. */
    private static final class Game {
        final Table table = new Table();
        final History history = new History();
        final Seen notes = new Seen();
        final Seen marks = new Seen();

        void begin(int zero, int one) {
            table.begin(zero, one);
            forgetAllElse();
        }

        void beginAt(Table start) {
            table.copyFrom(start);
            forgetAllElse();
        }

        private void forgetAllElse() {
            history.empty();
            notes.empty();
            marks.empty();
        }

        void copyFrom(Game other) {
            table.copyFrom(other.table);
            history.copyFrom(other.history);
            notes.copyFrom(other.notes);
            marks.copyFrom(other.marks);
        }
    }

    /** Which kinds fit what was seen, and where to look next. Kinds are bits. */
    private static final class Guess {
        static int cardKinds(Seen notes) {
            int bits = 0;
            for (int kind = 0; kind < KINDS; kind++) {
                if (notes.allOwed(kind)) {
                    bits |= 1 << kind;
                }
            }
            return bits;
        }

        static int playerKinds(Seen marks, int p) {
            int bits = 0;
            for (int kind = 0; kind < KINDS; kind++) {
                if (marks.allCame(kind, p)) {
                    bits |= 1 << kind;
                }
            }
            return bits;
        }

        static int bestLook(int bits) {
            int best = NONE;
            int fewest = KINDS + 1;
            for (int n = 1; bits != 0 && n <= MOST_CARDS; n++) {
                int alike = mostOwedAlike(bits, n);
                if (alike < fewest) {
                    fewest = alike;
                    best = n;
                }
            }
            return best;
        }

        static int bestAsk(int bits) {
            int best = NONE;
            int fewest = KINDS + 1;
            for (int n = 1; bits != 0 && n <= MOST_CARDS; n++) {
                for (int k = 0; k < n; k++) {
                    int alike = mostComingAlike(bits, n, k);
                    if (alike < fewest) {
                        fewest = alike;
                        best = 100 * n + k;
                    }
                }
            }
            return best;
        }

        private static boolean holds(int bits, int kind) {
            return ((bits >> kind) & 1) == 1;
        }

        private static int mostOwedAlike(int bits, int n) {
            int most = 0;
            for (int kind = 0; kind < KINDS; kind++) {
                int alike = 0;
                for (int other = 0; other < KINDS; other++) {
                    if (holds(bits, kind) && holds(bits, other) && owedFor(kind, n) == owedFor(other, n)) {
                        alike++;
                    }
                }
                most = Math.max(most, alike);
            }
            return most;
        }

        private static int mostComingAlike(int bits, int n, int k) {
            int most = 0;
            for (int kind = 0; kind < KINDS; kind++) {
                int alike = 0;
                for (int other = 0; other < KINDS; other++) {
                    if (holds(bits, kind) && holds(bits, other) && comesAt(kind, n, k) == comesAt(other, n, k)) {
                        alike++;
                    }
                }
                most = Math.max(most, alike);
            }
            return most;
        }
    }

    /** How games go on from a table, played on a table of its own so that the one asked about stays as it is. */
    private static final class Trial {
        private static final int WITHIN = 2000;
        private static final int FIRST_WITHIN = 200;
        private static final int ROUND_WITHIN = 500;

        int bestChoice = NONE;
        int bestMoves = NONE;
        private final Table table = new Table();
        private final Table milestone = new Table();
        private final int[] outcomes = new int[KINDS * KINDS];

        int numberBehind(Table start, int m, int what) {
            table.copyFrom(start);
            for (int i = 0; i < m && !table.isDone(); i++) {
                table.move();
            }
            return table.number(what);
        }

        int winner(Table start) {
            table.copyFrom(start);
            return playOut(WITHIN) == NONE ? NONE : table.other();
        }

        int length(Table start) {
            table.copyFrom(start);
            return playOut(WITHIN);
        }

        int firstTaken(Table start, boolean byWhom) {
            return takenWithin(start, FIRST_WITHIN, byWhom);
        }

        private int takenWithin(Table start, int limit, boolean byWhom) {
            table.copyFrom(start);
            for (int m = 1; m <= limit && !table.isDone(); m++) {
                table.move();
                if (table.row(PILE) == Rows.EMPTY) {
                    return byWhom ? table.turn : m;
                }
            }
            return NONE;
        }

        int comesRound(Table start) {
            return roundWithin(start, ROUND_WITHIN);
        }

        private int roundWithin(Table start, int limit) {
            table.copyFrom(start);
            for (int m = 1; m <= limit && !table.isDone(); m++) {
                table.move();
                if (table.liesAs(start)) {
                    return m;
                }
            }
            return NONE;
        }

        void seekExchange(Table start, int p) {
            bestChoice = NONE;
            bestMoves = NONE;
            int mine = Rows.size(start.row(p));
            int others = Rows.size(start.row(1 - p));
            for (int i = 0; i < mine; i++) {
                for (int j = 0; j < others; j++) {
                    table.copyFrom(start);
                    table.swapPlaces(p == 0 ? i : j, p == 0 ? j : i);
                    keepIfSooner(p, 100 * i + j);
                }
            }
        }

        void seekCut(Table start, int p) {
            bestChoice = NONE;
            bestMoves = NONE;
            int mine = Rows.size(start.row(p));
            for (int put = 0; put < mine; put++) {
                table.copyFrom(start);
                table.setHand(p, Rows.turned(start.row(p), put));
                keepIfSooner(p, put);
            }
        }

        /** Choices come rising, so only one that is strictly sooner takes the best one's place. */
        private void keepIfSooner(int p, int choice) {
            int moves = playOut(bestMoves == NONE ? WITHIN : bestMoves - 1);
            if (moves != NONE && table.other() == p) {
                bestMoves = moves;
                bestChoice = choice;
            }
        }

        void playAllKinds(Table start) {
            for (int i = 0; i < KINDS; i++) {
                for (int j = 0; j < KINDS; j++) {
                    table.copyFrom(start);
                    table.setKind(0, i);
                    table.setKind(1, j);
                    boolean ends = playOut(WITHIN) != NONE;
                    outcomes[KINDS * i + j] = !ends ? 0 : table.other() == 0 ? 1 : -1;
                }
            }
        }

        int howManyRest() {
            int resting = 0;
            for (int pair = 0; pair < outcomes.length; pair++) {
                if (rests(pair / KINDS, pair % KINDS)) {
                    resting++;
                }
            }
            return resting;
        }

        int restingPair(int k) {
            int ahead = 0;
            for (int pair = 0; pair < outcomes.length; pair++) {
                if (rests(pair / KINDS, pair % KINDS)) {
                    if (ahead == k) {
                        return 10 * (pair / KINDS) + pair % KINDS;
                    }
                    ahead++;
                }
            }
            return NOT_SO_MANY;
        }

        private boolean rests(int i, int j) {
            int here = outcomes[KINDS * i + j];
            for (int other = 0; other < KINDS; other++) {
                if (outcomes[KINDS * other + j] > here || outcomes[KINDS * i + other] < here) {
                    return false;
                }
            }
            return true;
        }

        static int ordersOf(int n) {
            int orders = 1;
            for (int i = 2; i <= n; i++) {
                orders *= i;
            }
            return orders;
        }

        int ordersWon(Table start, int p, int n) {
            int orders = ordersOf(n);
            int won = 0;
            for (int code = 0; code < orders; code++) {
                table.copyFrom(start);
                table.setHand(p, Rows.inOrder(start.row(p), n, code));
                if (playOut(WITHIN) != NONE && table.other() == p) {
                    won++;
                }
            }
            return won;
        }

        int eveningsWon(Table start, int seed, int n) {
            long x = seed;
            int won = 0;
            for (int i = 0; i < n; i++) {
                x = (x * 1103515245L + 12345L) % 2147483648L;
                table.copyFrom(start);
                table.setHand(0, Rows.turned(start.row(0), x / 65536));
                table.setHand(1, Rows.turned(start.row(1), x / 1048576));
                if (playOut(WITHIN) != NONE && table.other() == 0) {
                    won++;
                }
            }
            return won;
        }

        /**
         * Plays on to the end: behind how many moves it is done, none if not within the limit.
         * A game that goes round never ends; milestones ever further apart find that out early.
         */
        private int playOut(int limit) {
            int nextMilestone = 1;
            milestone.copyFrom(table);
            for (int m = 0; m <= limit; m++) {
                if (table.isDone()) {
                    return m;
                }
                if (m > 0 && table.liesAs(milestone)) {
                    return NONE;
                }
                if (m == nextMilestone) {
                    milestone.copyFrom(table);
                    nextMilestone = 2 * nextMilestone;
                }
                table.move();
            }
            return NONE;
        }
    }

    /** The bytes that were typed. */
    private static final class Text {
        static final int MOST = 150;
        private final byte[] bytes = new byte[MOST];
        private int size = 0;

        int size() {
            return size;
        }

        boolean isFull() {
            return size >= MOST;
        }

        void add(int c) {
            if (!isFull()) {
                bytes[size] = (byte) c;
                size++;
            }
        }

        void empty() {
            size = 0;
        }

        int at(int place) {
            return place >= 0 && place < size ? bytes[place] : NONE;
        }

        /** Whether the bytes from a place on, up to another, are those of a word. */
        boolean spells(int start, int end, String word) {
            if (start < 0 || end > size || end - start != word.length()) {
                return false;
            }
            for (int i = 0; i < word.length(); i++) {
                if (bytes[start + i] != word.charAt(i)) {
                    return false;
                }
            }
            return true;
        }
    }

    /** Reads a game from the text, token by token; one that can not stand where it does is the fault. */
    private static final class Reader {
        private static final int END = 0, SEMICOLON = 1, FIGURES = 2, GAME = 3, HAND = 4, LAY = 5, WRONG = 6;
        private static final int MOST_NUMBERS = 9;
        private static final int MOST_LAY = 99;
        private static final int MOST_FIGURES = 2;
        private static final int FAULT_AT_ZERO = -10;

        private final Text text;
        private int token = END;
        private int start = 0;
        private int next = 0;
        private int number = 0;

        Reader(Text text) {
            this.text = text;
        }

        /** How many items were read onto the table, or -10 less the fault. */
        int readInto(Table table) {
            next = 0;
            advance();
            boolean stands = readGame(table);
            int items = 1;
            while (stands && token != END && items < Text.MOST) {
                stands = token == HAND ? readHand(table) : readLay(table);
                items++;
            }
            return stands ? items : FAULT_AT_ZERO - start;
        }

        private boolean readGame(Table table) {
            if (!passes(GAME)) {
                return false;
            }
            int zero = passNumber(0, KINDS - 1);
            int one = zero == NONE ? NONE : passNumber(0, KINDS - 1);
            if (one == NONE) {
                return false;
            }
            table.begin(zero, one);
            return passes(SEMICOLON);
        }

        private boolean readHand(Table table) {
            if (!passes(HAND)) {
                return false;
            }
            int p = passNumber(0, 1);
            if (p == NONE) {
                return false;
            }
            int dealt = 0;
            while (dealt < MOST_NUMBERS && table.hasRoom()) {
                int kind = passNumber(0, KINDS - 1);
                if (kind == NONE) {
                    break;
                }
                table.deal(p, kind);
                dealt++;
            }
            return dealt > 0 && passes(SEMICOLON);
        }

        private boolean readLay(Table table) {
            if (!passes(LAY)) {
                return false;
            }
            int n = passNumber(1, MOST_LAY);
            if (n == NONE) {
                return false;
            }
            table.moveUpTo(n);
            return passes(SEMICOLON);
        }

        private boolean passes(int wanted) {
            if (token != wanted) {
                return false;
            }
            advance();
            return true;
        }

        /** The number that stands here, passed by; none, and still standing here, if it is not as told. */
        private int passNumber(int least, int most) {
            if (token != FIGURES || !within(number, least, most)) {
                return NONE;
            }
            int passed = number;
            advance();
            return passed;
        }

        private void advance() {
            start = next;
            while (start < text.size() && text.at(start) == ' ') {
                start++;
            }
            int c = text.at(start);
            next = start + 1;
            if (start >= text.size()) {
                token = END;
            } else if (isLetter(c)) {
                readWord();
            } else if (isFigure(c)) {
                readFigures();
            } else {
                token = c == ';' ? SEMICOLON : WRONG;
            }
        }

        private void readWord() {
            while (next < text.size() && isLetter(text.at(next))) {
                next++;
            }
            if (text.spells(start, next, "game")) {
                token = GAME;
            } else if (text.spells(start, next, "hand")) {
                token = HAND;
            } else {
                token = text.spells(start, next, "lay") ? LAY : WRONG;
            }
        }

        private void readFigures() {
            number = text.at(start) - '0';
            while (next < text.size() && isFigure(text.at(next))) {
                number = 10 * number + text.at(next) - '0';
                next++;
            }
            token = next - start <= MOST_FIGURES ? FIGURES : WRONG;
        }

        private static boolean isLetter(int c) {
            return c >= 'a' && c <= 'z';
        }

        private static boolean isFigure(int c) {
            return c >= '0' && c <= '9';
        }
    }
}
