/** Counts the answers that are not as due, and ends a test accordingly. */
final class Check {
    private static int asked = 0;
    private static int wrong = 0;
    private static String about = "";

    private Check() {
    }

    /** What the answers from here on are about: told ahead of each that is wrong. */
    static void about(String what) {
        about = what;
    }

    static void due(String call, long got, long want) {
        asked++;
        if (got != want) {
            wrong++;
            if (wrong <= 50) {
                System.out.println(about + call + " answered " + got + ", due is " + want);
            }
        }
    }

    static void holds(String what, boolean so) {
        due(what, so ? 1 : 0, 1);
    }

    static int asked() {
        return asked;
    }

    static boolean anyWrong() {
        return wrong > 0;
    }

    static void end(String test) {
        System.out.println(test + ": " + asked + " answers, " + wrong + " not as due");
        if (wrong > 0 || asked == 0) {
            System.exit(1);
        }
    }

    /** Puts a text in the place of the one that was there. */
    static void write(BeggarPile x, String text) {
        x.clear();
        for (int i = 0; i < text.length(); i++) {
            due("type(" + (int) text.charAt(i) + ")", x.type(text.charAt(i)), i + 1);
        }
    }

    /** Reads a text that is due to be right, on a new object. */
    static BeggarPile told(String text) {
        BeggarPile x = new BeggarPile();
        write(x, text);
        holds("read of '" + text + "' is right", x.read() > 0);
        return x;
    }

    /** The cards of a hand (0, 1) or the pile (2) as figures, the first one first. */
    static String row(BeggarPile x, int p) {
        StringBuilder cards = new StringBuilder();
        int size = x.count(p);
        for (int place = 0; place < size; place++) {
            cards.append(x.card(p, place));
        }
        return cards.toString();
    }

    static void row(BeggarPile x, int p, String want) {
        String got = row(x, p);
        holds("row " + p + " is '" + got + "', due is '" + want + "'", got.equals(want));
    }

    /** The rows, the turn and the debt. */
    static void state(BeggarPile x, String zero, String one, String pile, int turn, int debt) {
        row(x, 0, zero);
        row(x, 1, one);
        row(x, 2, pile);
        due("count(3), turn", x.count(3), turn);
        due("count(4), debt", x.count(4), debt);
    }

    /** What count answers from 0 on. */
    static void counts(BeggarPile x, int... want) {
        for (int what = 0; what < want.length; what++) {
            due("count(" + what + ")", x.count(what), want[what]);
        }
    }
}
