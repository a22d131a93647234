import java.util.function.Supplier;
import java.util.function.ToLongFunction;

/** The sentences that name a boundary of promises 29 to 34: part, image, from, status, count, digest. */
public final class EdgeKeepTests {
    private EdgeKeepTests() {
    }

    public static void main(String[] args) {
        part();
        image();
        from();
        status();
        count();
        digest();
        Edge.end("EdgeKeepTests", 29, 34);
    }

    // ---- promise 29

    private static void part() {
        Edge.test(29, "BAD: above (0), below (1)", () -> Edge.bounds(Scenes::stirred, "part(#)", 0, 1, (x, what) -> x.part(what)));
        Edge.test(29, "THE FRACTION: above (0), below (1)", () -> {
            Edge.leavesAll(BeggarPile::new, "part(0)", x -> x.part(0), 0);
            Edge.leavesAll(BeggarPile::new, "part(1)", x -> x.part(1), 1);
            Edge.leavesAll(Scenes::stirred, "part(0)", x -> x.part(0), 5);
            Edge.leavesAll(Scenes::stirred, "part(1)", x -> x.part(1), 6);
        });
        Edge.test(29, "THE FRACTION stays, whatever is begun, undone, brought back", () -> {
            BeggarPile x = Scenes.stirred();
            x.undo();
            x.from(0);
            x.read();
            x.game(0, 0);
            x.deals(0, 0);
            x.clear();
            x.forget(0);
            Check.due("part(0)", x.part(0), 5);
            Check.due("part(1)", x.part(1), 6);
        });
    }

    // ---- promise 30

    private static void image() {
        Edge.test(30, "BAD: IMAGES 0, 1", () -> Edge.bounds(Scenes::stirred, "image(#)", 0, 1, (x, i) -> x.image(i)));
        Edge.test(30, "An IMAGE is kept: 1", () -> {
            for (int i = 0; i <= 1; i++) {
                BeggarPile x = new BeggarPile();
                Check.due("image(" + i + ")", x.image(i), 1);
                Check.due("from(" + i + ")", x.from(i), 1);
                Check.due("from(" + (1 - i) + ")", x.from(1 - i), BeggarPile.NO);
            }
        });
        Edge.test(30, "IMAGES 0, 1 keep all: each by itself, the newer one in the older one's place", EdgeKeepTests::keptApart);
        Edge.test(30, "An IMAGE is kept, and nothing else changes", () -> {
            BeggarPile x = Scenes.stirred();
            long before = x.digest();
            Check.due("image(0)", x.image(0), 1);
            Check.due("digest()", x.digest(), before);
            Check.due("undo()", x.undo(), 13);
        });
        Edge.test(30, "IMAGES at the edges: nothing, 16 CARDS, 9999 MOVES, it being DONE, six NOTES and MARKS", () -> {
            comesBack(BeggarPile::new);
            comesBack(Scenes::sixteen);
            comesBack(Scenes.holding(0, 16, 0));
            comesBack(Scenes.holding(0, 0, 16));
            comesBack(Scenes::spent);
            comesBack(Scenes::done);
            comesBack(Scenes::knowing);
        });
    }

    private static void keptApart() {
        BeggarPile x = Scenes.dealt("12", "01", "23");
        x.image(0);
        long first = x.digest();
        x.deals(0, 4);
        x.image(1);
        long second = x.digest();
        x.deals(1, 5);
        long third = x.digest();
        x.from(0);
        Check.due("digest(), image 0", x.digest(), first);
        x.from(1);
        Check.due("digest(), image 1", x.digest(), second);
        x.deals(1, 5);
        x.image(0);
        x.from(1);
        Check.due("digest(), image 1 still", x.digest(), second);
        x.from(0);
        Check.due("digest(), image 0 anew", x.digest(), third);
    }

    private static void comesBack(Supplier<BeggarPile> scene) {
        BeggarPile x = scene.get();
        long kept = x.digest();
        int moves = scene.get().undo();
        x.image(1);
        x.game(5, 5);
        x.deals(0, 0);
        x.deals(1, 0);
        x.lays(1);
        x.exchanges(0, 0);
        x.note(16, 9);
        x.mark(1, 16, 7, 9);
        Check.due("from(1)", x.from(1), 1);
        Check.due("digest()", x.digest(), kept);
        Check.due("undo()", x.undo(), moves);
    }

    // ---- promise 31

    private static void from() {
        Edge.test(31, "BAD: IMAGES 0, 1", () -> Edge.bounds(Scenes::stirred, "from(#)", 0, 1, (x, i) -> x.from(i)));
        Edge.test(31, "NO: none was kept", () -> {
            Edge.no(BeggarPile::new, "from(0)", x -> x.from(0));
            Edge.no(BeggarPile::new, "from(1)", x -> x.from(1));
            Edge.no(() -> kept(0), "from(1)", x -> x.from(1));
            Edge.no(() -> kept(1), "from(0)", x -> x.from(0));
        });
        Edge.test(31, "the first of: BAD, NO", () -> {
            Edge.bad(BeggarPile::new, "from(-1)", x -> x.from(-1));
            Edge.bad(BeggarPile::new, "from(2)", x -> x.from(2));
        });
        Edge.test(31, "what may be undone they keep: 0 .. 8", EdgeKeepTests::undoneBehindAnImage);
        Edge.test(31, "keep all but them, THE TEXT, THE FRACTION and STATUS", EdgeKeepTests::whatAnImageKeepsNot);
        Edge.test(31, "it goes on from one, as often as wanted", () -> {
            BeggarPile x = Scenes.stirred();
            long[] digests = new long[2];
            for (int i = 0; i < 6; i++) {
                x.from(i % 2);
                digests[i % 2] = i < 2 ? x.digest() : digests[i % 2];
                Check.due("digest() of image " + i % 2, x.digest(), digests[i % 2]);
                x.lays(3);
                x.undo();
                x.undo();
                x.note(9, 9);
                x.forget(1);
                x.deals(0, 4);
            }
        });
    }

    private static BeggarPile kept(int i) {
        BeggarPile x = Scenes.dealt("34", "102", "304");
        x.lays(2);
        x.image(i);
        return x;
    }

    private static void undoneBehindAnImage() {
        for (int done = 0; done <= 10; done++) {
            BeggarPile x = Scenes.endless();
            for (int i = 0; i < done; i++) {
                x.lays(1);
            }
            x.image(0);
            x.game(0, 0);
            x.from(0);
            int may = Math.min(done, 8);
            Check.due("count(12)", x.count(12), may);
            for (int i = 1; i <= may; i++) {
                Check.due("undo()", x.undo(), done - i);
            }
            Check.due("undo()", x.undo(), BeggarPile.NO);
            x.from(0);
            x.lays(1);
            Check.due("count(12), one more", x.count(12), Math.min(done + 1, 8));
        }
    }

    private static void whatAnImageKeepsNot() {
        BeggarPile x = Scenes.stirred();
        x.clear();
        Scenes.type(x, "game 1 1;");
        x.luck(0, 0);
        long above = x.part(0);
        long below = x.part(1);
        x.lays(0);
        x.from(0);
        Check.due("count(13)", x.count(13), 9);
        Check.due("part(0)", x.part(0), above);
        Check.due("part(1)", x.part(1), below);
        Check.holds("another fraction than that of the images", below == 1);
        Check.due("status(0)", x.status(0), 4);
        Check.due("status(1)", x.status(1), 2);
        Check.due("status(2)", x.status(2), 1);
        x.image(1);
        x.from(0);
        x.from(1);
        Check.due("count(5), image 0 kept again as image 1", x.count(5), 4);
        Check.due("read(), the text being that of now", x.read(), 1);
    }

    // ---- promise 32

    private static void status() {
        Edge.test(32, "-1: another what (counts as BAD)", () -> {
            int[] wrong = {-1, 3, -2, 4, Integer.MIN_VALUE, Integer.MAX_VALUE};
            for (int what : wrong) {
                Edge.refused(Scenes::stirred, "status(" + what + ")", x -> x.status(what), -1, Edge.BAD);
            }
        });
        Edge.test(32, "STATUS: BAD (0), NO (1), FULL (2)", () -> {
            Edge.leavesAll(BeggarPile::new, "status(0)", x -> x.status(0), 0);
            Edge.leavesAll(BeggarPile::new, "status(1)", x -> x.status(1), 0);
            Edge.leavesAll(BeggarPile::new, "status(2)", x -> x.status(2), 0);
            Edge.leavesAll(Scenes::stirred, "status(0)", x -> x.status(0), 3);
            Edge.leavesAll(Scenes::stirred, "status(1)", x -> x.status(1), 2);
            Edge.leavesAll(Scenes::stirred, "status(2)", x -> x.status(2), 1);
        });
        Edge.test(32, "how many calls were refused: each one, in any number", EdgeKeepTests::manyRefused);
        Edge.test(32, "NONE, -5, a FAULT are not refused", EdgeKeepTests::notRefused);
        Edge.test(32, "STATUS stays, whatever is begun, read, brought back", () -> {
            BeggarPile x = Scenes.stirred();
            x.game(0, 0);
            x.read();
            x.from(1);
            x.undo();
            x.clear();
            Check.due("status(0)", x.status(0), 3);
            Check.due("status(1)", x.status(1), 2);
            Check.due("status(2)", x.status(2), 1);
        });
    }

    private static void manyRefused() {
        BeggarPile x = Scenes.holding(16, 0, 0).get();
        for (int i = 1; i <= 100; i++) {
            x.card(2, 0);
            x.undo();
            x.deals(0, 0);
            Check.due("status(" + i % 3 + ")", x.status(i % 3), i);
        }
    }

    private static void notRefused() {
        BeggarPile x = Scenes.endless();
        x.note(1, 9);
        x.mark(0, 1, 0, 9);
        Check.due("won()", x.won(), BeggarPile.NONE);
        Check.due("lasts()", x.lasts(), BeggarPile.NONE);
        Check.due("look()", x.look(), BeggarPile.NONE);
        Check.due("ask(0)", x.ask(0), BeggarPile.NONE);
        Check.due("against(36)", x.against(36), -5);
        Check.due("read()", x.read(), -10);
        x.game(0, 0);
        Check.due("first(0)", x.first(0), BeggarPile.NONE);
        Check.due("again()", x.again(), BeggarPile.NONE);
        Check.due("exchange(0, 0)", x.exchange(0, 0), BeggarPile.NONE);
        Check.due("cut(1, 1)", x.cut(1, 1), BeggarPile.NONE);
        Check.due("status(0)", x.status(0), 0);
        Check.due("status(1)", x.status(1), 0);
        Check.due("status(2)", x.status(2), 0);
    }

    // ---- promise 33

    private static void count() {
        Edge.test(33, "BAD: 0 .. 13", () -> Edge.bounds(Scenes::stirred, "count(#)", 0, 13, (x, what) -> x.count(what)));
        Edge.test(33, "How many: at their least", () -> counts(BeggarPile::new, 0, 0, 0, 0, 0, 0, 0, 0, 0, 0, 0, 0, 0, 0));
        Edge.test(33, "How many: in a game", () -> counts(Scenes::stirred, 3, 4, 5, 1, 4, 18, 2, 2, 3, 1, 2, 3, 6, 41));
        Edge.test(33, "How many: at their most", () -> {
            counts(Scenes.holding(16, 0, 0), 16, 0, 0, 0, 0, 0, 0, 0, 0, 0, 0, 0, 0, 0);
            counts(Scenes.holding(0, 16, 0), 0, 16, 0, 0, 0, 0, 0, 0, 0, 0, 0, 0, 0, 0);
            counts(Scenes.holding(0, 0, 16), 0, 0, 16, 0, 0, 16, 0, 0, 0, 0, 0, 0, 1, 0);
            counts(Scenes::spent, 1, 5, 0, 1, 0, 9999, 1666, 1667, 4, 2, 0, 0, 8, 0);
            counts(() -> knowingAndTyped(), 0, 1, 1, 1, 4, 1, 0, 0, 5, 5, 6, 6, 1, 150);
        });
    }

    private static BeggarPile knowingAndTyped() {
        BeggarPile x = Scenes.dealt("55", "4", "0");
        x.lays(1);
        Scenes.fillNotes(x);
        Scenes.fillMarks(x);
        Scenes.type(x, " ".repeat(150));
        return x;
    }

    private static void counts(Supplier<BeggarPile> scene, int... want) {
        for (int i = 0; i < want.length; i++) {
            int what = i;
            ToLongFunction<BeggarPile> ask = x -> x.count(what);
            Edge.leavesAll(scene, "count(" + what + ")", ask, want[what]);
        }
    }

    // ---- promise 34

    private static void digest() {
        Edge.test(34, "h = 1871; then h = 31 h + v: nothing but count(0) to count(13) and THE FRACTION", () ->
                digests(BeggarPile::new, 0, 0, 0, 0, 0, 0, 0, 0, 0, 0, 0, 0, 0, 0, 0, 1));
        Edge.test(34, "KINDS of CARDS of HAND 0, HAND 1, THE PILE", () -> {
            digests(() -> Scenes.dealt("25", "105", "43"), 3, 2, 0, 0, 0, 0, 0, 0, 2, 5, 0, 0, 0, 0, 1, 0, 5, 4, 3, 0, 1);
            digests(() -> laidTwo(), 2, 1, 2, 0, 4, 2, 0, 0, 2, 5, 0, 0, 1, 0, 0, 5, 3, 1, 4, 0, 1);
            digests(Scenes.holding(0, 0, 16), 0, 0, 16, 0, 0, 16, 0, 0, 0, 0, 0, 0, 1, 0,
                    0, 0, 0, 0, 0, 0, 0, 0, 0, 0, 0, 0, 0, 0, 0, 0, 0, 1);
        });
        Edge.test(34, "of NOTES n, x; of MARKS p, n, k, x: as they come, six of each", () ->
                digests(() -> knowingAndTyped(), 0, 1, 1, 1, 4, 1, 0, 0, 5, 5, 6, 6, 1, 150, 0, 4,
                        1, 2, 2, 3, 3, 1, 4, 2, 5, 3, 6, 1,
                        0, 6, 0, 5, 1, 6, 1, 4, 0, 6, 2, 3, 1, 6, 3, 2, 0, 6, 4, 1, 1, 6, 5, 0, 0, 1));
        Edge.test(34, "THE FRACTION: above, below", () -> digests(() -> {
            BeggarPile x = Scenes.dealt("00", "01", "01");
            x.luck(0, 2);
            return x;
        }, 2, 2, 0, 0, 0, 0, 0, 0, 0, 0, 0, 0, 0, 0, 0, 1, 0, 1, 1, 2));
        Edge.test(34, "STATUS is not in it", () -> {
            BeggarPile x = new BeggarPile();
            long before = x.digest();
            x.undo();
            x.count(14);
            Check.due("digest()", x.digest(), before);
        });
    }

    private static BeggarPile laidTwo() {
        BeggarPile x = Scenes.dealt("25", "105", "43");
        x.lays(2);
        return x;
    }

    private static void digests(Supplier<BeggarPile> scene, long... values) {
        long h = 1871;
        for (long v : values) {
            h = 31 * h + v;
        }
        long want = h;
        Edge.leavesAll(scene, "digest()", x -> x.digest(), want);
    }
}
