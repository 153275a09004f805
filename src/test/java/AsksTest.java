/** Promises 23 to 26 and 28 (as): kind, as, ask, trace. */
public final class AsksTest {
    private static final String TABLE = "table 1 2 4 8 16 32 64 98 99;";
    private static final int NONE = WindowCards.NONE, BAD = WindowCards.BAD, KIND = -1000013;
    private static int wrong = 0;

    private static void due(String call, long got, long want) {
        if (got != want) {
            wrong++;
            System.out.println(call + " answered " + got + ", due is " + want);
        }
    }

    public static void main(String[] args) {
        WindowCards x = new WindowCards();
        noGame(x);
        // 0 SHUT, 1 PIERCED (5), 2 LACE (6), 3 EVEN (5), 4 EVEN (1), 5 ROSE (8), 6 ROSE (9), 7 LACE (8), 8 EVEN (4)
        String text = TABLE + "card xxxxxxxxx 0;card ooooxxxxo 1;card ooooooxxx 0;card xoxoooxox 1;"
                + "card xxxxoxxxx 0;card ooooxoooo 1;card ooooooooo 0;card xoooooooo 1;card oxoxxxoxo 1;";
        for (int i = 0; i < text.length(); i++) {
            x.feed(text.charAt(i), 1);
        }
        due("game", x.game(), 9);
        kinds(x);
        taken(x);
        asks(x);
        refused(x);
        if (wrong != 0) {
            System.exit(1);
        }
    }

    private static void noGame(WindowCards x) {
        due("kind", x.kind(0), BAD);
        due("as", x.as(0, 0), BAD);
        due("ask", x.ask(0, 0), BAD);
        due("trace", x.trace(0), NONE);
    }

    private static void kinds(WindowCards x) {
        int[] kinds = {2, 1, 4, 3, 3, 5, 5, 4, 3};
        for (int card = 0; card < 9; card++) {
            due("kind " + card, x.kind(card), kinds[card]);
        }
        due("kind 9", x.kind(9), BAD);
        due("kind -1", x.kind(-1), BAD);
    }

    private static void taken(WindowCards x) {
        // Bits: which KINDS (0 .. 5) a card is one of.
        int[] kinds = {1 | 4, 1 | 2, 1 | 2 | 16, 1 | 2 | 8, 1 | 2 | 8, 1 | 2 | 8 | 32, 1 | 2 | 8 | 32,
            1 | 2 | 16, 1 | 2 | 8};
        for (int card = 0; card < 9; card++) {
            for (int kind = 0; kind < 6; kind++) {
                boolean is = (kinds[card] >> kind & 1) == 1;
                due("as " + card + ", " + kind, x.as(card, kind), is ? card : KIND);
                due("status", x.status(), is ? 0 : 3);
            }
        }
        x.as(0, 1);
        due("as 9", x.as(9, 0), BAD);
        due("as -1", x.as(-1, 0), BAD);
        due("as kind 6", x.as(0, 6), BAD);
        due("as kind -1", x.as(0, -1), BAD);
        due("status stays", x.status(), 3);
        due("kind leaves status", x.kind(1), 1);
        due("status", x.status(), 3);
    }

    private static void asked(WindowCards x, int card, int what, int want, int... trace) {
        due("ask " + card + ", " + what, x.ask(card, what), want);
        for (int i = 0; i < 18; i++) {
            due("trace " + i + " of " + card + ", " + what, x.trace(i), i < trace.length ? trace[i] : NONE);
        }
    }

    private static void asks(WindowCards x) {
        asked(x, 0, 0, -100, 14, 10);
        asked(x, 0, 1, -100, 23, 20, 14, 10);
        asked(x, 1, 0, 5 + 1 + 114, 11, 10, 21, 20);
        asked(x, 1, 1, 1 + 114, 21, 20);
        asked(x, 2, 0, -(6 + 2 + 63 + 500), 13, 11, 10, 24, 21, 20);
        asked(x, 2, 1, 2 + 63 + 500, 24, 21, 20);
        asked(x, 3, 0, 2 * (5 + 3 + 156), 12, 11, 10, 21, 20);
        asked(x, 3, 1, 3 + 156, 21, 20);
        asked(x, 5, 0, 2 * (8 + 5 + 308 - 1000), 12, 11, 10, 22, 21, 20);
        asked(x, 5, 1, 5 + 308 - 1000, 22, 21, 20);
        asked(x, 6, 0, 2 * (9 + 6 + 324 - 1000), 12, 11, 10, 22, 21, 20);
        asked(x, 7, 1, 7 + 323 + 500, 24, 21, 20);
        x.play(0, 0);
        asked(x, 0, 1, -100, 23, 20, 14, 10);
    }

    private static void refused(WindowCards x) {
        due("ask", x.ask(0, 0), -100);
        due("ask 9", x.ask(9, 0), BAD);
        due("ask -1", x.ask(-1, 0), BAD);
        due("what 2", x.ask(1, 2), BAD);
        due("what -1", x.ask(1, -1), BAD);
        due("the trace stays", x.trace(0), 14);
        due("and its end", x.trace(2), NONE);
        due("trace -1", x.trace(-1), NONE);
        due("trace least", x.trace(Integer.MIN_VALUE), NONE);
        due("trace far", x.trace(Integer.MAX_VALUE), NONE);
        due("ask leaves status", x.status(), 3);
    }
}
