/** Promises 1 to 5, 27 (rows) and 28: rows, their findings, status(). */
public final class RowsTest {
    private static final int NULL = -1000011, PLACE = -1000012, SIZE = -1000014, STORE = -1000015;
    private static int wrong = 0;

    private static void due(String call, long got, long want) {
        if (got != want) {
            wrong++;
            System.out.println(call + " answered " + got + ", due is " + want);
        }
    }

    public static void main(String[] args) {
        newObject();
        rows();
        lanes();
        copies();
        drops();
        findings();
        if (wrong != 0) {
            System.exit(1);
        }
    }

    private static void newObject() {
        WindowCards x = new WindowCards();
        for (int what = 0; what < 4; what++) {
            due("new count " + what, x.count(what), 0);
        }
        due("new status", x.status(), 0);
        due("new fault", x.fault(), 0);
        due("new trace", x.trace(0), WindowCards.NONE);
        due("new now", x.now(0), WindowCards.STATE);
        for (int row = 0; row < 8; row++) {
            due("new drop " + row, x.drop(row), NULL);
        }
        due("new drop 8", x.drop(8), WindowCards.BAD);
        due("new drop -1", x.drop(-1), WindowCards.BAD);
    }

    private static void rows() {
        WindowCards x = new WindowCards();
        for (int row = 0; row < 8; row++) {
            due("row " + row, x.row(row, row % 3, 5 * row), 5 * row);
            due("count 0", x.count(0), row + 1);
        }
        due("row of 40", x.row(7, 2, 40), 40);
        due("row of 41", x.row(7, 2, 41), WindowCards.BAD);
        due("row far", x.row(7, 2, Integer.MAX_VALUE), WindowCards.BAD);
        due("row -1", x.row(-1, 0, 1), WindowCards.BAD);
        due("row 8", x.row(8, 0, 1), WindowCards.BAD);
        due("lane -1", x.row(0, -1, 1), WindowCards.BAD);
        due("lane 3", x.row(0, 3, 1), WindowCards.BAD);
        due("lane ahead of size", x.row(0, 3, -1), WindowCards.BAD);
        due("fewer than none", x.row(7, 2, -1), SIZE);
        due("least size", x.row(7, 2, Integer.MIN_VALUE), SIZE);
        due("the row stays, 40 to be dropped", x.drop(7), 40);
        due("count 0 behind drop", x.count(0), 7);
        x.row(1, 2, 3);
        x.set(1, 2, 77);
        due("in place", x.row(1, 2, 3), 3);
        x.row(2, 2, 1);
        x.copy(1, 2, 2, 0, 1);
        due("items 0 at first", playShown(x, 2), 1);
    }

    /** What SHOWS by item 0 of a row: no call tells an item, but WAY 0 of the corner leaves 1. */
    private static int playShown(WindowCards x, int row) {
        String text = "table 1 2 3 4 5 6 7 8 9;card oxxxxxxxx 0;card xxxxoxxxx 0;";
        for (int i = 0; i < text.length(); i++) {
            x.feed(text.charAt(i), 1);
        }
        x.game();
        x.plays(row, 0, 1);
        return x.now(0);
    }

    private static void lanes() {
        WindowCards x = new WindowCards();
        x.row(0, 0, 2);
        x.row(1, 1, 2);
        x.row(2, 2, 2);
        due("byte 127", x.set(0, 0, 127), 127);
        due("byte 128", x.set(0, 0, 128), -128);
        due("byte 255", x.set(0, 1, 255), -1);
        due("byte 256", x.set(0, 1, 256), 0);
        due("byte -129", x.set(0, 1, -129), 127);
        due("short 32767", x.set(1, 0, 32767), 32767);
        due("short 32768", x.set(1, 0, 32768), -32768);
        due("short 65535", x.set(1, 1, 65535), -1);
        due("short 70000", x.set(1, 1, 70000), 4464);
        due("int", x.set(2, 0, Integer.MIN_VALUE), Integer.MIN_VALUE);
        due("int like a refusal", x.set(2, 1, WindowCards.BAD), WindowCards.BAD);
        due("status of that", x.status(), 0);
        due("int like a finding", x.set(2, 1, NULL), NULL);
        due("status of that, too", x.status(), 0);
        due("set -1", x.set(2, -1, 0), PLACE);
        due("set beyond", x.set(2, 2, 0), PLACE);
        due("set far", x.set(2, Integer.MAX_VALUE, 0), PLACE);
        due("set least", x.set(2, Integer.MIN_VALUE, 0), PLACE);
        due("set row -1", x.set(-1, 0, 0), WindowCards.BAD);
        due("set row 8", x.set(8, 0, 0), WindowCards.BAD);
        due("set missing", x.set(3, -1, 0), NULL);
        due("row of none", x.row(3, 0, 0), 0);
        due("set in none", x.set(3, 0, 0), PLACE);
    }

    private static void copies() {
        WindowCards x = new WindowCards();
        x.row(0, 2, 6);
        x.row(1, 2, 4);
        x.row(2, 1, 6);
        due("all", x.copy(0, 0, 0, 0, 6), 6);
        due("none at an end", x.copy(0, 6, 1, 4, 0), 0);
        due("none beyond an end", x.copy(0, 7, 1, 4, 0), PLACE);
        due("none beyond the other end", x.copy(0, 6, 1, 5, 0), PLACE);
        due("i below", x.copy(0, -1, 1, 0, 1), PLACE);
        due("j below", x.copy(0, 0, 1, -1, 1), PLACE);
        due("n below", x.copy(0, 0, 1, 0, -1), PLACE);
        due("n below by far", x.copy(0, 0, 1, 0, Integer.MIN_VALUE), PLACE);
        due("n far", x.copy(0, 1, 1, 1, Integer.MAX_VALUE), PLACE);
        due("i far", x.copy(0, Integer.MAX_VALUE, 1, 1, 1), PLACE);
        due("beyond a", x.copy(1, 2, 0, 0, 3), PLACE);
        due("beyond b", x.copy(0, 0, 1, 2, 3), PLACE);
        due("lanes", x.copy(0, 0, 2, 0, 1), STORE);
        due("lanes ahead of places", x.copy(0, -1, 2, 0, 1), STORE);
        due("a missing", x.copy(5, 0, 2, 0, 1), NULL);
        due("b missing", x.copy(0, -1, 5, 0, 1), NULL);
        due("a BAD", x.copy(-1, 0, 2, 0, 1), WindowCards.BAD);
        due("b BAD", x.copy(0, 0, 8, 0, 1), WindowCards.BAD);
        due("b BAD, a missing", x.copy(5, 0, 8, 0, 1), WindowCards.BAD);
        overlapping(1, 0);
        overlapping(0, 1);
    }

    /** Items are as they were ahead, though the runs lie over one another. */
    private static void overlapping(int from, int to) {
        WindowCards x = new WindowCards();
        x.row(0, 2, 4);
        for (int i = 0; i < 4; i++) {
            x.set(0, i, 8 * i);
        }
        due("overlapping", x.copy(0, from, 0, to, 3), 3);
        x.row(1, 2, 1);
        int[] want = from == 1 ? new int[] {1, 2, 3, 3} : new int[] {0, 0, 1, 2};
        for (int i = 0; i < 4; i++) {
            x.copy(0, i, 1, 0, 1);
            due("item " + i + " from " + from, cardOf(x), want[i]);
        }
    }

    /** The CARD that the first item of row 1 plays. */
    private static int cardOf(WindowCards x) {
        String text = "table 1 2 3 4 5 6 7 8 9;card ooooooooo 0;card ooooooooo 0;"
                + "card ooooooooo 0;card ooooooooo 0;";
        for (int i = 0; i < text.length(); i++) {
            x.feed(text.charAt(i), 1);
        }
        x.game();
        x.plays(1, 0, 1);
        return Integer.numberOfTrailingZeros(~x.now(5));
    }

    private static void drops() {
        WindowCards x = new WindowCards();
        x.row(4, 1, 7);
        due("drop", x.drop(4), 7);
        due("drop again", x.drop(4), NULL);
        due("set dropped", x.set(4, 0, 0), NULL);
        due("count", x.count(0), 0);
        due("row of none", x.row(4, 1, 0), 0);
        due("counts", x.count(0), 1);
        due("drop of none", x.drop(4), 0);
    }

    private static void findings() {
        WindowCards x = new WindowCards();
        x.row(0, 0, -1);
        due("SIZE", x.status(), 4);
        x.row(9, 0, 1);
        due("BAD leaves it", x.status(), 4);
        x.row(0, 0, 1);
        due("none", x.status(), 0);
        x.set(1, 0, 0);
        due("NULL", x.status(), 1);
        x.count(0);
        x.count(9);
        x.feed(0, 9);
        x.fault();
        due("other calls leave it", x.status(), 1);
        x.set(0, 1, 0);
        due("PLACE", x.status(), 2);
        x.plays(0, 0, 1);
        due("STATE leaves it", x.status(), 2);
        x.row(1, 1, 1);
        x.copy(0, 0, 1, 0, 1);
        due("STORE", x.status(), 5);
        x.drop(1);
        due("drop", x.status(), 0);
        x.drop(1);
        due("drop NULL", x.status(), 1);
        x.copy(0, 0, 0, 0, 1);
        due("copy", x.status(), 0);
    }
}
