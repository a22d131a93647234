/** Promises 29 to 34: part, image, from, status, count, digest. */
public final class KeepTests {
    private KeepTests() {
    }

    public static void main(String[] args) {
        part();
        images();
        imagesKeepWhatMayBeUndone();
        imagesRefused();
        status();
        count();
        digestOfANewObject();
        digestOfAll();
        Check.end("KeepTests");
    }

    private static void part() {
        BeggarPile x = Check.told("game 0 0;hand 0 0 1;hand 1 0 1;");
        Check.due("part(0)", x.part(0), 0);
        Check.due("part(1)", x.part(1), 1);
        x.luck(0, 2);
        Check.due("part(0)", x.part(0), 1);
        Check.due("part(1)", x.part(1), 2);
        Check.due("part(2)", x.part(2), BeggarPile.BAD);
        Check.due("part(-1)", x.part(-1), BeggarPile.BAD);
        Check.due("status(0)", x.status(0), 2);
    }

    private static void images() {
        BeggarPile x = Check.told("game 3 2;hand 0 0 1 5;hand 1 0 1 4;lay 1;");
        x.note(3, 1);
        x.mark(1, 5, 2, 2);
        x.lays(1);
        long kept = x.digest();
        Check.due("image(0)", x.image(0), 1);
        x.lays(2);
        x.forget(0);
        x.note(9, 4);
        x.forget(1);
        x.mark(0, 3, 1, 0);
        x.mark(0, 1, 0, 0);
        Check.due("image(1)", x.image(1), 1);
        long other = x.digest();
        x.game(5, 5);
        x.deals(0, 4);
        Check.due("from(0)", x.from(0), 1);
        Check.due("as it was kept", x.digest(), kept);
        Check.due("from(1)", x.from(1), 1);
        Check.due("as it was kept", x.digest(), other);
        x.lays(1);
        x.note(1, 9);
        Check.due("from(1), once more", x.from(1), 1);
        Check.due("an image stays when it goes on from it", x.digest(), other);
        Check.due("image(0), in the other's place", x.image(0), 1);
        x.game(0, 0);
        x.from(0);
        Check.due("the newer image", x.digest(), other);
        x.clear();
        x.luck(0, 0);
        x.lays(0);
        x.from(0);
        Check.due("no image keeps the text", x.count(13), 0);
        Check.due("nor status", x.status(0), 1);
        Check.holds("a text of another length is in the digest", x.digest() != other);
        fractionIsNotKept();
    }

    private static void fractionIsNotKept() {
        BeggarPile x = Check.told("game 0 0;hand 0 0 1;hand 1 0 1;");
        x.image(0);
        x.luck(0, 2);
        x.from(0);
        Check.due("no image keeps the fraction", x.part(1), 2);
    }

    private static void imagesKeepWhatMayBeUndone() {
        BeggarPile x = Check.told("game 4 2;hand 0 0 0 1;hand 1 1 0 0;");
        for (int i = 0; i < 10; i++) {
            x.lays(1);
        }
        x.image(1);
        Check.due("undo()", x.undo(), 9);
        x.game(0, 0);
        x.deals(0, 4);
        x.deals(1, 4);
        for (int i = 0; i < 9; i++) {
            x.exchanges(0, 0);
        }
        x.from(1);
        Check.due("count(12)", x.count(12), 8);
        for (int moves = 9; moves >= 2; moves--) {
            Check.due("undo()", x.undo(), moves);
        }
        Check.due("undo()", x.undo(), BeggarPile.NO);
        Check.row(x, 0, "01");
        Check.row(x, 1, "00");
        Check.row(x, 2, "01");
        x.from(1);
        Check.due("once more", x.undo(), 9);
    }

    private static void imagesRefused() {
        BeggarPile x = new BeggarPile();
        Check.due("image(-1)", x.image(-1), BeggarPile.BAD);
        Check.due("image(2)", x.image(2), BeggarPile.BAD);
        Check.due("from(-1)", x.from(-1), BeggarPile.BAD);
        Check.due("from(2)", x.from(2), BeggarPile.BAD);
        Check.due("from(0)", x.from(0), BeggarPile.NO);
        x.image(0);
        Check.due("from(1)", x.from(1), BeggarPile.NO);
        Check.due("from(0)", x.from(0), 1);
        Check.due("status(0)", x.status(0), 4);
        Check.due("status(1)", x.status(1), 2);
    }

    private static void status() {
        BeggarPile x = new BeggarPile();
        x.lays(61);
        x.lays(1);
        x.undo();
        for (int i = 0; i < 19; i++) {
            x.deals(0, 0);
        }
        Check.due("status(0)", x.status(0), 1);
        Check.due("status(1)", x.status(1), 2);
        Check.due("status(2)", x.status(2), 3);
        Check.due("status(3)", x.status(3), -1);
        Check.due("status(-1)", x.status(-1), -1);
        Check.due("another what counts as bad", x.status(0), 3);
        x.game(0, 0);
        x.clear();
        Check.due("a new game leaves it", x.status(2), 3);
    }

    private static void count() {
        BeggarPile x = Check.told("game 3 4;hand 0 0 1 5 0;hand 1 0 0 0;");
        x.note(1, 1);
        x.note(2, 1);
        x.mark(1, 1, 0, 0);
        x.lays(4);
        x.lays(1);
        Check.counts(x, 5, 1, 1, 1, 2, 5, 1, 0, 3, 4, 2, 1, 2, 37);
        Check.due("count(-1)", x.count(-1), BeggarPile.BAD);
        Check.due("count(14)", x.count(14), BeggarPile.BAD);
        Check.due("status(0)", x.status(0), 2);
    }

    private static long mixed(long... values) {
        long h = 1871;
        for (int i = 0; i < values.length; i++) {
            h = 31 * h + values[i];
        }
        return h;
    }

    private static void digestOfANewObject() {
        Check.due("digest()", new BeggarPile().digest(), mixed(0, 0, 0, 0, 0, 0, 0, 0, 0, 0, 0, 0, 0, 0, 0, 1));
    }

    private static void digestOfAll() {
        BeggarPile x = Check.told("game 0 5;hand 0 0 1;hand 1 0 1;");
        x.luck(0, 2);
        x.lays(3);
        x.undo();
        x.lays(2);
        x.note(7, 3);
        x.note(8, 1);
        x.mark(1, 9, 4, 6);
        x.mark(0, 2, 1, 0);
        Check.due("digest()", x.digest(), mixed(1, 1, 2, 0, 0, 2, 0, 0, 0, 5, 2, 2, 1, 31,
                1, 1, 0, 0, 7, 3, 8, 1, 1, 9, 4, 6, 0, 2, 1, 0, 1, 2));
    }
}
