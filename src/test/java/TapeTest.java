/** Promises 6 to 8 and 27 (bytes): feed, game, fault. */
public final class TapeTest {
    private static final String TABLE = "table 1 2 3 4 5 6 7 8 9;";
    private static final String CARD = "card ooooooooo 0;";
    private static int wrong = 0;

    private static void due(String call, long got, long want) {
        if (got != want) {
            wrong++;
            System.out.println(call + " answered " + got + ", due is " + want);
        }
    }

    public static void main(String[] args) {
        feeding();
        games();
        endings();
        faultsOfTables();
        faultsOfCards();
        faultsKeep();
        afresh();
        if (wrong != 0) {
            System.exit(1);
        }
    }

    private static void feed(WindowCards x, String text) {
        for (int i = 0; i < text.length(); i++) {
            x.feed(text.charAt(i), 1);
        }
    }

    private static int read(WindowCards x, String text) {
        feed(x, text);
        return x.game();
    }

    private static void fault(String text, int number, int place) {
        WindowCards x = new WindowCards();
        due("game of " + text, read(x, text), -1000100 - place);
        due("fault of " + text, x.fault(), number);
        due("tape behind " + text, x.count(3), 0);
        due("no game of " + text, x.now(0), WindowCards.STATE);
    }

    private static void good(String text, int cards) {
        WindowCards x = new WindowCards();
        due("game of " + text, read(x, text), cards);
        due("fault of " + text, x.fault(), 0);
        due("tape behind " + text, x.count(3), 0);
        due("cards of " + text, x.count(1), cards);
    }

    private static void feeding() {
        WindowCards x = new WindowCards();
        due("n 0", x.feed(65, 0), WindowCards.BAD);
        due("n -1", x.feed(65, -1), WindowCards.BAD);
        due("n 9", x.feed(65, 9), WindowCards.BAD);
        for (int i = 1; i <= 49; i++) {
            due("eight", x.feed(-1L, 8), 8 * i);
        }
        due("seven", x.feed(-1L, 7), 399);
        due("two more", x.feed(-1L, 2), WindowCards.FULL);
        due("BAD ahead of FULL", x.feed(-1L, 9), WindowCards.BAD);
        due("none came", x.count(3), 399);
        due("one more", x.feed(-1L, 1), 400);
        due("full", x.feed(-1L, 1), WindowCards.FULL);
        due("read", x.game(), -1000100);
        due("empty", x.count(3), 0);
        due("again", x.feed(-1L, 3), 3);
        // The highest bytes come first, those above n do not count.
        WindowCards y = new WindowCards();
        feed(y, "table 1 2 3 4 5 6 7 8 9;card ");
        y.feed(0x6f6f786f6f78786fL, 8);
        y.feed(0x41416f20313bL, 4);
        due("order of bytes", y.game(), 1);
        due("holes as fed", y.holes(0, 0), 1 | 2 | 8 | 16 | 128 | 256);
        due("hand as fed", y.now(6), 1);
    }

    private static void games() {
        good(TABLE + CARD, 1);
        good("table1 2 3 4 5 6 7 8 9;cardooooooooo0;".replace("cardo", "card o"), 1);
        good("\n\n table\n000 01 002 99 5 6 7 8 9 ;\ncard xoxoxoxox 001 ; card\nxxxxxxxxx\n0\n;\n ", 2);
        good("table 0 99 0 99 0 99 0 99 0;card ooooooooo1;", 1);
        StringBuilder most = new StringBuilder(TABLE);
        for (int i = 1; i <= 14; i++) {
            most.append(CARD);
            good(most.toString(), i);
        }
        WindowCards x = new WindowCards();
        due("values", read(x, "table 99 0 7 20 50 3 0 8 010;card oxxxxxxxo 1;card xxxxoxxxx 0;"), 2);
        due("worths", x.worth(1) + 1000 * x.worth(256), 10099);
        due("holes 0", x.holes(0, 0), 257);
        due("holes 1", x.holes(1, 0), 16);
        due("hand 0", x.now(5), 2);
        due("hand 1", x.now(6), 1);
        due("to play", x.now(2), 0);
        WindowCards y = new WindowCards();
        read(y, TABLE + "card ooooooooo 1;");
        due("hand 1 is to play", y.now(2), 1);
    }

    private static void endings() {
        String text = TABLE + CARD;
        for (int n = 0; n < text.length(); n++) {
            String begun = text.substring(0, n);
            boolean word = n > 0 && n < 5 || n > 24 && n < 28;
            boolean holes = n > 29 && n < 38;
            int place = word ? (n < 5 ? 0 : 24) : holes ? 29 : n;
            fault(begun, 1, place);
        }
        fault(TABLE + "  ", 1, 26);
        fault("  \n", 1, 3);
        fault(TABLE + CARD + "card ", 1, 46);
    }

    private static void faultsOfTables() {
        fault("tables 1 2 3 4 5 6 7 8 9;" + CARD, 1, 0);
        fault("tabl 1 2 3 4 5 6 7 8 9;" + CARD, 1, 0);
        fault("tablo 1 2 3 4 5 6 7 8 9;" + CARD, 1, 0);
        fault("fable 1 2 3 4 5 6 7 8 9;" + CARD, 1, 0);
        fault("tablea 1 2 3 4 5 6 7 8 9;" + CARD, 1, 0);
        fault("tablez 1 2 3 4 5 6 7 8 9;" + CARD, 1, 0);
        fault("Table 1 2 3 4 5 6 7 8 9;" + CARD, 1, 0);
        fault(" ; table", 1, 1);
        fault("7 table", 1, 0);
        fault("card ooooooooo 0;" + TABLE, 1, 0);
        fault("table 1 2 3 4 5 6 7 8 9 10;" + CARD, 1, 24);
        fault("table 1 2 3 4 5 6 7 8;" + CARD, 1, 21);
        fault("table 1 2 3 4 5 6 7 8 x;" + CARD, 1, 22);
        fault("table 100 2 3 4 5 6 7 8 9;" + CARD, 2, 6);
        fault("table 1 999 3 4 5 6 7 8 1000;" + CARD, 2, 8);
        fault("table 1 1000 3 4 5 6 7 8 999;" + CARD, 1, 8);
        fault("table 1 0000 3 4 5 6 7 8 9;" + CARD, 1, 8);
        fault("table 1 2 3 4 5 6 7 8 99999999999999999999;" + CARD, 1, 22);
        fault("table -1 2 3 4 5 6 7 8 9;" + CARD, 1, 6);
        fault("table 1,2 3 4 5 6 7 8 9;" + CARD, 1, 7);
        fault("table\t1 2 3 4 5 6 7 8 9;" + CARD, 1, 5);
        fault("table\r\n1 2 3 4 5 6 7 8 9;" + CARD, 1, 5);
        fault("table 1 2 3 4 5 6 7 8 9:" + CARD, 1, 23);
        fault("table 1 2 3 4 5 6 7 8 9" + CARD, 1, 23);
        fault((char) 233 + TABLE, 1, 0);
        fault((char) 0 + TABLE, 1, 0);
    }

    private static void faultsOfCards() {
        fault(TABLE + ";", 1, 24);
        fault(TABLE + "cards ooooooooo 0;", 1, 24);
        fault(TABLE + "cart ooooooooo 0;", 1, 24);
        fault(TABLE + "hard ooooooooo 0;", 1, 24);
        fault(TABLE + "cardooooooooo 0;", 1, 24);
        fault(TABLE + "table ooooooooo 0;", 1, 24);
        fault(TABLE + "card card 0;", 1, 29);
        fault(TABLE + "card 0 ooooooooo;", 1, 29);
        fault(TABLE + "card 1000 ooooooooo;", 1, 29);
        fault(TABLE + "card ; 0;", 1, 29);
        fault(TABLE + "card oooooooo 0;", 1, 29);
        fault(TABLE + "card oooooooooo 0;", 1, 29);
        fault(TABLE + "card xxxxyxxxx 0;", 1, 29);
        fault(TABLE + "card ooo oooooo 0;", 1, 29);
        fault(TABLE + "card OOOOOOOOO 0;", 1, 29);
        fault(TABLE + "card ooooooooo 2;", 2, 39);
        fault(TABLE + "card ooooooooo 100;", 2, 39);
        fault(TABLE + "card ooooooooo 0001;", 1, 39);
        fault(TABLE + "card ooooooooo o;", 1, 39);
        fault(TABLE + "card ooooooooo ;", 1, 39);
        fault(TABLE + "card ooooooooo 0 0;", 1, 41);
        fault(TABLE + "card ooooooooo 0 card", 1, 41);
        fault(TABLE + CARD + ";", 1, 41);
        fault(TABLE + CARD + "0", 1, 41);
        fault(TABLE + CARD + TABLE, 1, 41);
        StringBuilder most = new StringBuilder(TABLE);
        for (int i = 0; i < 14; i++) {
            most.append(CARD);
        }
        fault(most + "card", 3, 262);
        fault(most + "\n card ooooooooo 2;", 3, 264);
        fault(most + "cards", 1, 262);
        fault(most + ";", 1, 262);
        fault(most + "5555", 1, 262);
    }

    private static void faultsKeep() {
        WindowCards x = new WindowCards();
        read(x, TABLE + "card ooxxxxxxx 0;card oxoxoxoxo 1;");
        x.row(0, 2, 3);
        x.image(1);
        x.play(0, 3);
        x.ask(0, 0);
        due("fault", read(x, "table 9 9 9 9 9 9 9 9 9;card xxxxxxxxx 1;card xxxxxxxxx 2;"), -1000156);
        due("number", x.fault(), 2);
        due("cards stay", x.count(1), 2);
        due("played stay", x.count(2), 1);
        due("table stays", x.worth(511), 45);
        due("holes stay", x.holes(0, 0), 3);
        due("shows stays", x.now(0), 72);
        due("hand stays", x.now(2), 1);
        due("hands stay", x.now(5) + 10 * x.now(6), 20);
        due("trace stays", x.trace(0), 11);
        due("row stays", x.count(0), 1);
        due("good game", read(x, TABLE + CARD), 1);
        due("fault stays", x.fault(), 2);
        due("image stays", x.restore(1), 1);
        due("image's cards", x.count(1), 2);
        due("nothing on the tape", x.game(), -1000100);
        due("another fault", x.fault(), 1);
    }

    private static void afresh() {
        WindowCards x = new WindowCards();
        read(x, TABLE + "card xxxxxxxxx 0;card ooooooooo 1;card ooooooooo 0;");
        x.row(0, 0, 3);
        x.set(0, 1, 8);
        x.set(0, 2, 16);
        due("all", x.plays(0, 0, 3), 0);
        due("what hand 0 got", x.now(3), 45);
        due("read", read(x, TABLE + "card oxxxxxxxx 1;"), 1);
        int[] want = {511, 0, 1, 0, 0, 0, 1, 0};
        for (int what = 0; what < 8; what++) {
            due("now " + what, x.now(what), want[what]);
        }
        due("played", x.count(2), 0);
    }
}
