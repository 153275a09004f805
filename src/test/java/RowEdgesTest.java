import java.util.function.IntSupplier;

/**
 * Promises 1 to 5, 27 (ROWS) and 28, sentence by sentence: both sides of each bound, the empty and the
 * full ROW, what a refused call leaves as it was, which refusal comes first.
 */
public final class RowEdgesTest {
    private static final int BAD = WindowCards.BAD;
    private static final int NULL = -1000011, PLACE = -1000012, SIZE = -1000014, STORE = -1000015;
    private static final int LEAST = Integer.MIN_VALUE, MOST = Integer.MAX_VALUE;
    private static final String MISSING = "missing", OTHER = "?";
    private static int wrong = 0;

    private static void due(String call, Object got, Object want) {
        if (!got.equals(want)) {
            wrong++;
            System.out.println(call + ": " + got + ", due is " + want);
        }
    }

    public static void main(String[] args) {
        missingAtFirst();
        rowNumbers();
        lanes();
        sizes();
        zerosAtFirst();
        inPlaceOfWhatIsThere();
        lowestBits();
        setPlaces();
        setOrder();
        copyEnds();
        copyOfNone();
        copyAsAhead();
        copyLanes();
        copyOrder();
        drops();
        rowsCounted();
        refusedStays();
        statusOfTheLatest();
        statusLeft();
        if (wrong != 0) {
            System.exit(1);
        }
    }

    /** An object with a game by which items 0 to 111 can be read: 14 cards that lie in 8 unlike ways. */
    private static WindowCards made() {
        WindowCards x = new WindowCards();
        StringBuilder text = new StringBuilder("table 1 2 4 8 16 32 64 98 99;");
        for (int card = 0; card < 14; card++) {
            text.append("card ooxxxxxxx 0;");
        }
        for (int i = 0; i < text.length(); i++) {
            x.feed(text.charAt(i), 1);
        }
        due("the game that reads items", x.game(), 14);
        x.image(0);
        return x;
    }

    /** A ROW's items, told by what they play; OTHER for one that is no PLAY. It changes status(). */
    private static String items(WindowCards x, int row) {
        StringBuilder told = new StringBuilder();
        for (int i = 0; i <= 40; i++) {
            int answer = x.plays(row, i, 1);
            if (answer == NULL) {
                return MISSING;
            }
            if (answer == PLACE) {
                return told.toString().trim();
            }
            told.append(' ').append(answer == BAD ? OTHER : "" + played(x));
            x.restore(0);
        }
        return "more than 40";
    }

    private static int played(WindowCards x) {
        int card = Integer.numberOfTrailingZeros(~x.now(5));
        for (int way = 0; way < 8; way++) {
            if (x.holes(card, way) == x.now(0)) {
                return 8 * card + way;
            }
        }
        return -1;
    }

    private static String zeros(int n) {
        return "0 ".repeat(n).trim();
    }

    private static void fill(WindowCards x, int row, int lane, int... items) {
        x.row(row, lane, items.length);
        for (int i = 0; i < items.length; i++) {
            x.set(row, i, items[i]);
        }
    }

    // "ROWS 0 .. 7 are missing (at first)"; "No GAME."; "there was none"
    private static void missingAtFirst() {
        WindowCards x = new WindowCards();
        due("new status", x.status(), 0);
        due("new count 0", x.count(0), 0);
        due("new: no GAME", x.image(0), WindowCards.STATE);
        for (int row = 0; row < 8; row++) {
            WindowCards y = made();
            due("items of a missing row " + row, items(y, row), MISSING);
            due("set " + row, y.set(row, 0, 0), NULL);
            due("drop " + row, y.drop(row), NULL);
            due("copy from " + row, y.copy(row, 0, row, 0, 0), NULL);
            due("plays " + row, y.plays(row, 0, 1), NULL);
        }
    }

    // "ROWS 0 .. 7"
    private static void rowNumbers() {
        int[] wrongRows = {-1, 8, LEAST, MOST};
        for (int row : wrongRows) {
            WindowCards x = made();
            x.row(0, 0, 3);
            due("row " + row, x.row(row, 0, 1), BAD);
            due("set " + row, x.set(row, 0, 1), BAD);
            due("copy from " + row, x.copy(row, 0, 0, 0, 1), BAD);
            due("copy to " + row, x.copy(0, 0, row, 0, 1), BAD);
            due("drop " + row, x.drop(row), BAD);
            due("plays " + row, x.plays(row, 0, 1), BAD);
        }
        for (int row = 0; row <= 7; row += 7) {
            WindowCards x = made();
            due("row " + row, x.row(row, 0, 2), 2);
            due("set " + row, x.set(row, 1, 5), 5);
            due("copy " + row, x.copy(row, 1, row, 0, 1), 1);
            due("items " + row, items(x, row), "5 5");
            due("drop " + row, x.drop(row), 2);
        }
    }

    // "LANE (0 bytes, 1 shorts, 2 ints)"
    private static void lanes() {
        WindowCards x = new WindowCards();
        int[] wrongLanes = {-1, 3, LEAST, MOST};
        for (int lane : wrongLanes) {
            due("lane " + lane, x.row(0, lane, 1), BAD);
            due("count 0", x.count(0), 0);
        }
        for (int lane = 0; lane < 3; lane++) {
            due("lane " + lane, x.row(lane, lane, 1), 1);
        }
    }

    // "0 to 40 ITEMS"; "BAD: .. n above 40; SIZE"; "4 SIZE (fewer than none)"
    private static void sizes() {
        for (int lane = 0; lane < 3; lane++) {
            WindowCards x = made();
            due("0 items", x.row(0, lane, 0), 0);
            due("no item", items(x, 0), "");
            due("1 item", x.row(1, lane, 1), 1);
            due("one item", items(x, 1), "0");
            due("40 items", x.row(2, lane, 40), 40);
            due("forty items", items(x, 2), zeros(40));
            due("41 items", x.row(3, lane, 41), BAD);
            due("far too many", x.row(3, lane, MOST), BAD);
            due("no row of 41", items(x, 3), MISSING);
            due("-1 items", x.row(4, lane, -1), SIZE);
            due("far too few", x.row(4, lane, LEAST), SIZE);
            due("no row of -1", items(x, 4), MISSING);
        }
        WindowCards y = new WindowCards();
        due("ROW ahead of SIZE", y.row(8, 0, -1), BAD);
        due("LANE ahead of SIZE", y.row(0, 3, -1), BAD);
        due("status", y.status(), 0);
    }

    // "ITEMS, 0 at first"
    private static void zerosAtFirst() {
        WindowCards x = made();
        for (int i = 0; i < 40; i++) {
            x.row(0, 2, 40);
            x.set(0, i, 9);
            due("again " + i, x.row(0, 0, 40), 40);
            due("0 again " + i, items(x, 0), zeros(40));
        }
        fill(x, 1, 1, 7, 8, 9);
        x.drop(1);
        x.row(1, 1, 3);
        due("0 behind a drop", items(x, 1), "0 0 0");
        fill(x, 1, 1, 7, 8, 9);
        x.row(1, 1, 1);
        x.row(1, 1, 3);
        due("0 behind a shorter row", items(x, 1), "0 0 0");
    }

    // "A ROW of a LANE with n ITEMS, in place of what is there"
    private static void inPlaceOfWhatIsThere() {
        WindowCards x = made();
        fill(x, 5, 0, 1, 2, 3, 4);
        fill(x, 6, 0, 1, 2);
        due("shorter", x.row(5, 2, 2), 2);
        due("its end", x.set(5, 2, 0), PLACE);
        due("its lane", x.set(5, 0, 70000), 70000);
        due("longer", x.row(5, 1, 6), 6);
        due("its last", x.set(5, 5, 70000), 4464);
        due("none", x.row(5, 1, 0), 0);
        due("none of it", items(x, 5), "");
        due("another row stays", items(x, 6), "1 2");
        due("as many rows", x.count(0), 2);
    }

    // "ITEM i becomes v, its lowest bits, as many as the LANE has (read with their sign): what it is then"
    private static void lowestBits() {
        int[] wild = {0, 1, -1, 127, 128, 129, -127, -128, -129, 255, 256, -255, -256, -257, 32767, 32768, 32769,
            -32767, -32768, -32769, 65535, 65536, -65535, -65536, -65537, 8388607, 16777216, MOST, LEAST,
            MOST - 1, LEAST + 1, WindowCards.NONE, BAD, NULL};
        WindowCards x = new WindowCards();
        for (int lane = 0; lane < 3; lane++) {
            x.row(lane, lane, 40);
        }
        for (int v : wild) {
            due("byte " + v, x.set(0, 0, v), v << 24 >> 24);
            due("status", x.status(), 0);
            due("short " + v, x.set(1, 39, v), v << 16 >> 16);
            due("int " + v, x.set(2, 20, v), v);
            due("status", x.status(), 0);
        }
        WindowCards y = made();
        fill(y, 0, 0, 256 + 9, -256 + 111, -1);
        due("kept narrow", items(y, 0), "9 111 " + OTHER);
        fill(y, 1, 1, 65536 + 9, -65536 + 111, 256 + 9);
        due("kept as shorts", items(y, 1), "9 111 " + OTHER);
        fill(y, 2, 2, 65536 + 9, 256 + 9, 9);
        due("kept as ints", items(y, 2), OTHER + " " + OTHER + " 9");
    }

    // "set .. PLACE"; "2 PLACE (no such place of a ROW)"
    private static void setPlaces() {
        for (int n = 0; n <= 40; n += 20) {
            WindowCards x = made();
            x.row(3, 2, n);
            int[] wrongPlaces = {-1, n, n + 1, 40, LEAST, MOST};
            for (int i : wrongPlaces) {
                due("set " + i + " of " + n, x.set(3, i, 7), PLACE);
                due("status", x.status(), 2);
            }
            due("all stay", items(x, 3), zeros(n));
            if (n > 0) {
                due("set 0 of " + n, x.set(3, 0, 7), 7);
                due("set the last of " + n, x.set(3, n - 1, 8), 8);
                due("those two", items(x, 3), "7 " + zeros(n - 2) + " 8");
            }
        }
    }

    // "set .. BAD: ROW; NULL; PLACE", in this order
    private static void setOrder() {
        WindowCards x = new WindowCards();
        due("BAD ahead of all", x.set(8, -1, 0), BAD);
        due("status", x.status(), 0);
        due("NULL ahead of PLACE", x.set(7, -1, 0), NULL);
        due("status", x.status(), 1);
    }

    // "copy .. PLACE (i, j, n below 0, or beyond an end)"
    private static void copyEnds() {
        WindowCards x = made();
        fill(x, 0, 1, 1, 2, 3, 4, 5, 6);
        fill(x, 1, 1, 11, 12, 13, 14);
        int[][] refused = {{-1, 0, 1}, {0, -1, 1}, {0, 0, -1}, {5, 0, 2}, {0, 3, 2}, {6, 0, 1}, {0, 4, 1}, {0, 0, 5},
            {LEAST, 0, 1}, {0, LEAST, 1}, {0, 0, LEAST}, {MOST, 0, 1}, {0, MOST, 1}, {0, 0, MOST}, {MOST, 0, MOST},
            {0, MOST, MOST}, {1, 1, MOST}, {-1, -1, 2}, {6, 4, -1}, {7, 0, -1}, {0, 5, -1}, {MOST, MOST, LEAST},
            {6, 4, LEAST}};
        for (int[] one : refused) {
            String call = "copy of " + one[2] + " from " + one[0] + " to " + one[1];
            due(call, x.copy(0, one[0], 1, one[1], one[2]), PLACE);
            due("status", x.status(), 2);
            due(call + ": to stays", items(x, 1), "11 12 13 14");
            due(call + ": from stays", items(x, 0), "1 2 3 4 5 6");
        }
        due("to the end of both", x.copy(0, 5, 1, 3, 1), 1);
        due("the last", items(x, 1), "11 12 13 6");
        due("as many as go in", x.copy(0, 2, 1, 0, 4), 4);
        due("all of it", items(x, 1), "3 4 5 6");
        due("back, all there are", x.copy(1, 0, 0, 2, 4), 4);
        due("from stays", items(x, 0), "1 2 3 4 5 6");
    }

    // "n ITEMS": none, at an end and in a ROW of none
    private static void copyOfNone() {
        WindowCards x = made();
        fill(x, 0, 2, 1, 2, 3);
        x.row(1, 2, 0);
        due("none", x.copy(0, 0, 1, 0, 0), 0);
        due("none from an end", x.copy(0, 3, 1, 0, 0), 0);
        due("none to an end", x.copy(1, 0, 0, 3, 0), 0);
        due("status", x.status(), 0);
        due("none from beyond", x.copy(0, 4, 1, 0, 0), PLACE);
        due("none to beyond", x.copy(1, 0, 0, 4, 0), PLACE);
        due("none to beyond none", x.copy(0, 0, 1, 1, 0), PLACE);
        due("none from below", x.copy(0, -1, 1, 0, 0), PLACE);
        due("none to below", x.copy(0, 0, 1, -1, 0), PLACE);
        due("one from none", x.copy(1, 0, 0, 0, 1), PLACE);
        due("one to none", x.copy(0, 0, 1, 0, 1), PLACE);
        due("all stay", items(x, 0), "1 2 3");
    }

    // "come to b from j on, as they were ahead"
    private static void copyAsAhead() {
        WindowCards x = made();
        StringBuilder want = new StringBuilder("0");
        x.row(0, 0, 40);
        for (int i = 0; i < 40; i++) {
            x.set(0, i, i);
            want.append(' ').append(i);
        }
        due("39 on", x.copy(0, 0, 0, 1, 39), 39);
        due("as they were", items(x, 0), want.substring(0, want.length() - 3));
        for (int i = 0; i < 40; i++) {
            x.set(0, i, i);
        }
        due("39 back", x.copy(0, 1, 0, 0, 39), 39);
        due("as they were, too", items(x, 0), want.substring(4) + " 39");
        due("onto themselves", x.copy(0, 0, 0, 0, 40), 40);
        due("as ever", items(x, 0), want.substring(4) + " 39");
        x.row(7, 0, 40);
        due("forty", x.copy(0, 0, 7, 0, 40), 40);
        due("all forty", items(x, 7), want.substring(4) + " 39");
    }

    // "5 STORE (ROWS of two LANES)"
    private static void copyLanes() {
        for (int from = 0; from < 3; from++) {
            for (int to = 0; to < 3; to++) {
                WindowCards x = made();
                fill(x, 0, from, 1, 2);
                fill(x, 1, to, 3, 4);
                due("lane " + from + " to " + to, x.copy(0, 0, 1, 0, 2), from == to ? 2 : STORE);
                due("status", x.status(), from == to ? 0 : 5);
                due("items", items(x, 1), from == to ? "1 2" : "3 4");
                due("none of lane " + from + " to " + to, x.copy(0, 0, 1, 0, 0), from == to ? 0 : STORE);
            }
        }
    }

    // "copy .. BAD: ROWS; NULL; STORE; PLACE", in this order
    private static void copyOrder() {
        WindowCards x = new WindowCards();
        x.row(0, 0, 2);
        x.row(1, 1, 2);
        due("BAD a, b missing", x.copy(-1, 0, 7, 0, 1), BAD);
        due("a missing, BAD b", x.copy(7, 0, -1, 0, 1), BAD);
        due("BAD ahead of PLACE", x.copy(0, -1, 8, 0, 1), BAD);
        due("status", x.status(), 0);
        due("a missing, PLACE", x.copy(7, 0, 0, 5, 1), NULL);
        due("b missing, PLACE", x.copy(0, 5, 7, 0, 1), NULL);
        due("both missing, fewer than none", x.copy(6, 0, 7, 0, -1), NULL);
        due("status", x.status(), 1);
        due("STORE ahead of PLACE of a", x.copy(0, 3, 1, 0, 1), STORE);
        due("STORE ahead of PLACE of b", x.copy(0, 0, 1, 3, 1), STORE);
        due("STORE ahead of PLACE of n", x.copy(0, 0, 1, 0, -1), STORE);
        due("status", x.status(), 5);
    }

    // "A ROW is missing from now on: how many ITEMS it had."
    private static void drops() {
        for (int n = 0; n <= 40; n++) {
            WindowCards x = made();
            x.row(2, n % 3, n);
            due("drop of " + n, x.drop(2), n);
            due("status", x.status(), 0);
            due("missing", items(x, 2), MISSING);
            due("dropped again", x.drop(2), NULL);
            due("status", x.status(), 1);
            due("set", x.set(2, 0, 0), NULL);
            due("copy", x.copy(2, 0, 2, 0, 0), NULL);
        }
        WindowCards y = made();
        fill(y, 0, 0, 1);
        fill(y, 1, 0, 2);
        y.drop(0);
        due("another stays", items(y, 1), "2");
    }

    // "count .. 0 ROWS"
    private static void rowsCounted() {
        WindowCards x = new WindowCards();
        for (int row = 7; row >= 0; row--) {
            x.row(row, 0, 0);
            due("rows", x.count(0), 8 - row);
        }
        x.row(3, 1, 40);
        due("rows in place", x.count(0), 8);
        for (int row = 0; row < 8; row++) {
            x.drop(row);
            due("rows left", x.count(0), 7 - row);
        }
        x.drop(0);
        due("none less than none", x.count(0), 0);
    }

    // "What is refused, or found, changes nothing but status()."
    private static void refusedStays() {
        WindowCards x = made();
        fill(x, 0, 0, 1, 2, 3);
        fill(x, 1, 1, 4, 5, 6);
        stays(x, "BAD row", () -> x.row(0, 0, 41), BAD);
        stays(x, "BAD lane", () -> x.row(0, -1, 1), BAD);
        stays(x, "SIZE", () -> x.row(0, 2, -1), SIZE);
        stays(x, "SIZE of a missing", () -> x.row(5, 2, -1), SIZE);
        stays(x, "set PLACE", () -> x.set(0, 3, 9), PLACE);
        stays(x, "set NULL", () -> x.set(2, 0, 9), NULL);
        stays(x, "copy STORE", () -> x.copy(0, 0, 1, 0, 3), STORE);
        stays(x, "copy PLACE", () -> x.copy(0, 0, 0, 1, 3), PLACE);
        stays(x, "copy NULL", () -> x.copy(0, 0, 2, 0, 3), NULL);
        stays(x, "drop NULL", () -> x.drop(2), NULL);
        stays(x, "drop BAD", () -> x.drop(8), BAD);
        due("the lane of row 0", x.set(0, 0, 128), -128);
        due("the lane of row 1", x.set(1, 0, 128), 128);
    }

    private static void stays(WindowCards x, String call, IntSupplier refused, int want) {
        due(call, refused.getAsInt(), want);
        due(call + ": rows", x.count(0), 2);
        due(call + ": row 0", items(x, 0), "1 2 3");
        due(call + ": row 1", items(x, 1), "4 5 6");
        due(call + ": row 2", items(x, 2), MISSING);
        due(call + ": row 5", items(x, 5), MISSING);
        due(call + ": cards", x.count(1), 14);
        due(call + ": none played", x.count(2), 0);
    }

    // "Of the latest call with a ROW, or as(), that was not BAD, STATE, FULL: the number of its FINDING; 0 .."
    private static void statusOfTheLatest() {
        WindowCards x = made();
        x.row(0, 0, 2);
        x.row(1, 1, 2);
        int[] wants = {4, 0, 1, 0, 2, 0, 5, 0, 1, 0, 2, 0, 1, 0, 3, 0, 2, 0};
        for (int call = 0; call < wants.length; call++) {
            statusCall(x, call);
            due("status behind call " + call, x.status(), wants[call]);
            due("and told again", x.status(), wants[call]);
        }
    }

    private static int statusCall(WindowCards x, int call) {
        switch (call) {
            case 0: return x.row(0, 0, -1);
            case 1: return x.row(0, 0, 2);
            case 2: return x.set(4, 0, 0);
            case 3: return x.set(0, 0, 0);
            case 4: return x.set(0, 2, 0);
            case 5: return x.copy(0, 0, 0, 1, 1);
            case 6: return x.copy(0, 0, 1, 0, 1);
            case 7: return x.copy(1, 0, 1, 0, 0);
            case 8: return x.drop(4);
            case 9: return x.drop(1);
            case 10: return x.plays(0, 2, 1);
            case 11: return x.plays(0, 0, 1);
            case 12: return x.plays(1, 0, 1);
            case 13: return x.as(0, 1);
            case 14: return x.as(0, 2);
            case 15: return x.row(7, 0, 0);
            case 16: return x.plays(7, 0, 1);
            default: return x.as(0, 0);
        }
    }

    // ".. that was not BAD, STATE, FULL", nor a call without a ROW
    private static void statusLeft() {
        WindowCards x = made();
        fill(x, 0, 2, 0, -1, 112);
        x.play(0, 0);
        x.copy(0, 0, 0, 0, 4);
        due("status", x.status(), 2);
        IntSupplier[] others = {() -> x.row(8, 0, 1), () -> x.row(0, 3, 1), () -> x.row(0, 0, 41),
            () -> x.set(8, 0, 0), () -> x.copy(8, 0, 0, 0, 0), () -> x.copy(0, 0, 8, 0, 0), () -> x.drop(8),
            () -> x.plays(8, 0, 1), () -> x.plays(0, 0, 0), () -> x.plays(0, 0, 15), () -> x.plays(0, 0, 1),
            () -> x.plays(0, 1, 1), () -> x.plays(0, 2, 1), () -> x.as(14, 0), () -> x.as(0, 6), () -> x.feed(0, 9),
            () -> x.feed(59, 1), () -> x.game(), () -> x.fault(), () -> x.holes(0, 0), () -> x.holes(14, 0),
            () -> x.worth(0), () -> x.worth(512), () -> x.play(0, 0), () -> x.play(14, 0), () -> x.play(1, 0),
            () -> x.lots(0, 1), () -> x.lots(1, 1), () -> x.now(0), () -> x.now(8), () -> x.best(0), () -> x.best(2),
            () -> x.mean(2, 0, 0), () -> x.mean(0, 0, 0), () -> x.fewest(0, -1), () -> x.fewest(0, -2),
            () -> x.triples(-1), () -> x.triples(-2), () -> x.alike(0, 0), () -> x.alike(0, 2),
            () -> x.fit(0, 0, -1), () -> x.fit(0, 0, 14), () -> x.image(1), () -> x.image(2), () -> x.restore(1),
            () -> x.restore(2), () -> x.kind(0), () -> x.kind(14), () -> x.ask(0, 0), () -> x.ask(0, 2),
            () -> x.trace(0), () -> x.trace(-1), () -> x.count(0), () -> x.count(4)};
        for (int i = 0; i < others.length; i++) {
            others[i].getAsInt();
            due("status behind other call " + i, x.status(), 2);
        }
        WindowCards y = new WindowCards();
        y.drop(0);
        due("no GAME: STATE ahead of all", y.plays(8, -1, 0), WindowCards.STATE);
        due("status stays", y.status(), 1);
    }
}
