import java.util.ArrayList;
import java.util.List;
import java.util.Set;
import java.util.TreeSet;
import java.util.function.Supplier;
import java.util.function.ToLongFunction;

/**
 * Tests of single sentences of the document, each naming its promise. A call is looked at on one of two twins: where
 * nothing may have changed, all that can be seen, undone, brought back from images and read must be as on the other.
 */
final class Edge {
    /** What STATUS is asked for each reason. */
    static final int BAD = 0, NO = 1, FULL = 2;
    private static final int NOT_REFUSED = -1;

    private static final Set<Integer> PROMISES = new TreeSet<>();
    private static int sentences = 0;

    /** A call with one number that is varied. */
    interface NumberCall {
        long of(BeggarPile x, int number);
    }

    private Edge() {
    }

    static void test(int promise, String sentence, Runnable body) {
        int before = Check.asked();
        Check.about("promise " + promise + ", '" + sentence + "': ");
        body.run();
        Check.holds("the test asks for something", Check.asked() > before);
        Check.about("");
        PROMISES.add(promise);
        sentences++;
    }

    /** Ends a test that is due to have looked at each of these promises. */
    static void end(String name, int first, int last) {
        for (int promise = first; promise <= last; promise++) {
            Check.holds("promise " + promise + " is looked at", PROMISES.contains(promise));
        }
        System.out.println(name + ": " + sentences + " sentences");
        Check.end(name);
    }

    /** The call is refused for this reason: STATUS counts it, and nothing else has changed. */
    static void refused(Supplier<BeggarPile> scene, String call, ToLongFunction<BeggarPile> ask, long due, int reason) {
        compare(scene, call, ask, due, reason);
    }

    static void bad(Supplier<BeggarPile> scene, String call, ToLongFunction<BeggarPile> ask) {
        compare(scene, call, ask, BeggarPile.BAD, BAD);
    }

    static void no(Supplier<BeggarPile> scene, String call, ToLongFunction<BeggarPile> ask) {
        compare(scene, call, ask, BeggarPile.NO, NO);
    }

    static void full(Supplier<BeggarPile> scene, String call, ToLongFunction<BeggarPile> ask) {
        compare(scene, call, ask, BeggarPile.FULL, FULL);
    }

    /** The call has this answer and changes nothing, STATUS neither. */
    static void leavesAll(Supplier<BeggarPile> scene, String call, ToLongFunction<BeggarPile> ask, long due) {
        compare(scene, call, ask, due, NOT_REFUSED);
    }

    /** From least to most the number (# in the call's words) is taken; beyond each end it is BAD. */
    static void bounds(Supplier<BeggarPile> scene, String call, int least, int most, NumberCall ask) {
        int[] taken = {least, most};
        for (int number : taken) {
            taken(scene.get(), named(call, number), x -> ask.of(x, number));
        }
        int[] beyond = {least - 1, most + 1, Integer.MIN_VALUE, Integer.MAX_VALUE};
        for (int number : beyond) {
            bad(scene, named(call, number), x -> ask.of(x, number));
        }
    }

    static String named(String call, int number) {
        return call.replace("#", String.valueOf(number));
    }

    private static void taken(BeggarPile x, String call, ToLongFunction<BeggarPile> ask) {
        long[] before = refusals(x);
        Check.holds(call + " is taken", ask.applyAsLong(x) != BeggarPile.BAD);
        long[] behind = refusals(x);
        for (int what = BAD; what <= FULL; what++) {
            Check.due("status(" + what + ") behind " + call, behind[what], before[what]);
        }
    }

    private static void compare(Supplier<BeggarPile> scene, String call, ToLongFunction<BeggarPile> ask, long due, int reason) {
        BeggarPile asked = scene.get();
        BeggarPile left = scene.get();
        Check.due(call, ask.applyAsLong(asked), due);
        long[] counted = refusals(asked);
        long[] before = refusals(left);
        for (int what = BAD; what <= FULL; what++) {
            Check.due("status(" + what + ") behind " + call, counted[what], before[what] + (what == reason ? 1 : 0));
        }
        List<String> want = everything(left);
        List<String> got = everything(asked);
        for (int i = 0; i < want.size(); i++) {
            String one = i < got.size() ? got.get(i) : "nothing";
            Check.holds("behind " + call + ": " + one + ", due is " + want.get(i), one.equals(want.get(i)));
        }
        Check.due("how much there is behind " + call, got.size(), want.size());
    }

    private static long[] refusals(BeggarPile x) {
        return new long[] {x.status(BAD), x.status(NO), x.status(FULL)};
    }

    /** All that can be found out of an object but STATUS, in some hundred calls; the object is used up by it. */
    private static List<String> everything(BeggarPile x) {
        List<String> seen = new ArrayList<>();
        for (int what = 0; what <= 13; what++) {
            seen.add("count(" + what + ") " + x.count(what));
        }
        for (int p = 0; p <= 2; p++) {
            seen.add("row " + p + " " + Check.row(x, p));
        }
        seen.add("part(0) " + x.part(0));
        seen.add("part(1) " + x.part(1));
        digestAndUndo(x, "now", seen);
        for (int i = 0; i <= 1; i++) {
            seen.add("from(" + i + ") " + x.from(i));
            digestAndUndo(x, "image " + i, seen);
        }
        seen.add("read() " + x.read());
        seen.add("the text's game: digest() " + x.digest());
        return seen;
    }

    private static void digestAndUndo(BeggarPile x, String name, List<String> seen) {
        seen.add(name + ": digest() " + x.digest());
        for (int moves = x.undo(); moves >= 0; moves = x.undo()) {
            seen.add(name + ": undo() " + moves + ", digest() " + x.digest());
        }
    }
}
