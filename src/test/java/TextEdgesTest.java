/**
 * Promises 6 to 8, 27 (bytes) and TEXTS, FAULTS, sentence by sentence: both sides of each bound, the empty
 * and the full tape, what a FAULT leaves as it was, which FAULT comes first.
 */
public final class TextEdgesTest {
    private static final int BAD = WindowCards.BAD, FULL = WindowCards.FULL;
    private static final String TABLE = "table 1 2 3 4 5 6 7 8 9;";
    private static final String CARD = "card ooooooooo 0;";
    private static int wrong = 0;

    private static void due(String call, Object got, Object want) {
        if (!got.equals(want)) {
            wrong++;
            System.out.println(call + ": " + got + ", due is " + want);
        }
    }

    public static void main(String[] args) {
        bytesOfACall();
        highestFirst();
        tapeIsFull();
        tapeIsEmptyThen();
        names();
        numbers();
        signs();
        blanks();
        noneIsNeeded();
        nineNumbers();
        numbersAsTold();
        holesOfNine();
        hands();
        cardsAtMost();
        oneCardAtLeast();
        theEnd();
        figures();
        firstToken();
        leastFault();
        handToPlay();
        standsInPlace();
        faultStays();
        faultTold();
        if (wrong != 0) {
            System.exit(1);
        }
    }

    private static void feed(WindowCards x, String text) {
        for (int i = 0; i < text.length(); i++) {
            x.feed(text.charAt(i), 1);
        }
    }

    private static int read(WindowCards x, String text) {
        feed(x, text);
        due("bytes of " + text, x.count(3), text.length());
        return x.game();
    }

    private static void fault(String text, int number, int place) {
        WindowCards x = new WindowCards();
        due("game of '" + text + "'", read(x, text), -1000100 - place);
        due("fault of '" + text + "'", x.fault(), number);
        due("no game of '" + text + "'", x.worth(0), WindowCards.STATE);
        due("no cards of '" + text + "'", x.count(1), 0);
    }

    private static WindowCards good(String text, int cards) {
        WindowCards x = new WindowCards();
        due("game of '" + text + "'", read(x, text), cards);
        due("fault of '" + text + "'", x.fault(), 0);
        due("cards of '" + text + "'", x.count(1), cards);
        return x;
    }

    private static String cards(int n) {
        return CARD.repeat(n);
    }

    // "The lowest n bytes of w (1 to 8)"; "BAD: n"
    private static void bytesOfACall() {
        WindowCards x = new WindowCards();
        int[] wrongNumbers = {0, -1, 9, Integer.MIN_VALUE, Integer.MAX_VALUE};
        for (int n : wrongNumbers) {
            due("feed " + n, x.feed(59, n), BAD);
            due("none came", x.count(3), 0);
        }
        int sum = 0;
        for (int n = 1; n <= 8; n++) {
            sum += n;
            due("feed " + n, x.feed(0x2020202020202020L, n), sum);
            due("bytes", x.count(3), sum);
        }
    }

    // "the highest of them first, come behind the tape"
    private static void highestFirst() {
        for (int n = 1; n <= 8; n++) {
            String text = TABLE + "card oxooxoxxx 1; card xoxoxoxox 0;";
            WindowCards x = new WindowCards();
            for (int from = 0; from < text.length(); from += n) {
                int to = Math.min(from + n, text.length());
                // What is above the bytes that come does not count: here all ones.
                long w = -1;
                for (int i = from; i < to; i++) {
                    w = w << 8 | text.charAt(i);
                }
                due("feed", x.feed(w, to - from), to);
            }
            due("game by " + n, x.game(), 2);
            due("card 0 by " + n, x.holes(0, 0), 1 | 4 | 8 | 32);
            due("card 1 by " + n, x.holes(1, 0), 2 | 8 | 32 | 128);
            due("hands by " + n, x.now(5) + 10 * x.now(6), 12);
        }
    }

    // "THE TAPE has at most 400 bytes"; "FULL: none comes"; BAD ahead of FULL
    private static void tapeIsFull() {
        for (int n = 1; n <= 8; n++) {
            WindowCards x = new WindowCards();
            feed(x, " ".repeat(400 - n));
            if (n < 8) {
                due("one more than there is room for", x.feed(0, n + 1), FULL);
                due("none came", x.count(3), 400 - n);
            }
            due("as many as there is room for", x.feed(0x2020202020202020L, n), 400);
            due("all of 400", x.count(3), 400);
            for (int more = 1; more <= 8; more++) {
                due("more", x.feed(59, more), FULL);
            }
            due("BAD ahead of FULL", x.feed(59, 9), BAD);
            due("BAD ahead of FULL, too", x.feed(59, 0), BAD);
            due("still 400", x.count(3), 400);
            due("blanks to the end", x.game(), -1000500);
        }
        String text = TABLE + cards(14);
        good(text + " ".repeat(400 - text.length()), 14);
        good(" ".repeat(400 - text.length()) + text, 14);
        fault(text + " ".repeat(399 - text.length()) + ";", 1, 399);
        // A byte that was refused is not read.
        WindowCards y = new WindowCards();
        feed(y, TABLE + " ".repeat(400 - TABLE.length() - CARD.length()) + CARD);
        due("refused", y.feed(';', 1), FULL);
        due("read without it", y.game(), 1);
    }

    // "The tape, empty then, is read"
    private static void tapeIsEmptyThen() {
        WindowCards x = new WindowCards();
        due("nothing on it", x.game(), -1000100);
        due("good", read(x, TABLE + CARD), 1);
        due("empty behind a game", x.count(3), 0);
        due("nothing on it then", x.game(), -1000100);
        due("the game before stays", x.count(1), 1);
        due("a fault", read(x, TABLE + "cart"), -1000124);
        due("empty behind a fault", x.count(3), 0);
        due("from its start", x.feed(' ', 1), 1);
        feed(x, "\n;" + TABLE);
        due("the first byte has place 0", x.game(), -1000102);
        feed(x, "#".repeat(400));
        due("a full one", x.game(), -1000100);
        due("is empty, too", x.count(3), 0);
        due("good behind it", read(x, TABLE + cards(3)), 3);
    }

    // "NAMES (letters a to z)": what stands ahead of a and behind z ends a NAME and is none
    private static void names() {
        fault("tablea 1 2 3 4 5 6 7 8 9;" + CARD, 1, 0);
        fault("tablez 1 2 3 4 5 6 7 8 9;" + CARD, 1, 0);
        fault("atable 1 2 3 4 5 6 7 8 9;" + CARD, 1, 0);
        fault("table` 1 2 3 4 5 6 7 8 9;" + CARD, 1, 5);
        fault("table{ 1 2 3 4 5 6 7 8 9;" + CARD, 1, 5);
        fault("tableA 1 2 3 4 5 6 7 8 9;" + CARD, 1, 5);
        fault("tableZ 1 2 3 4 5 6 7 8 9;" + CARD, 1, 5);
        fault("table_ 1 2 3 4 5 6 7 8 9;" + CARD, 1, 5);
        fault("table" + (char) 228 + " 1 2 3 4 5 6 7 8 9;" + CARD, 1, 5);
        fault("table" + (char) 255 + " 1 2 3 4 5 6 7 8 9;" + CARD, 1, 5);
        fault("table" + (char) 0 + " 1 2 3 4 5 6 7 8 9;" + CARD, 1, 5);
        fault("t able 1 2 3 4 5 6 7 8 9;" + CARD, 1, 0);
        fault("tab\nle 1 2 3 4 5 6 7 8 9;" + CARD, 1, 0);
        fault(TABLE + "ca rd ooooooooo 0;", 1, 24);
        fault(TABLE + "car ooooooooo 0;", 1, 24);
        fault(TABLE + "card{ooooooooo 0;", 1, 28);
        fault(TABLE + "card oooo`oooo 0;", 1, 29);
        fault(TABLE + "card ooooooooo{0;", 1, 38);
    }

    // "NUMBERS (figures, 3 at most)"
    private static void numbers() {
        good("table 0 00 000 9 09 009 99 099 10;" + CARD, 1);
        good(TABLE + "card ooooooooo 0;card ooooooooo 00;card ooooooooo 001;", 3);
        fault("table 0/1 2 3 4 5 6 7 8;" + CARD, 1, 7);
        fault("table 0:1 2 3 4 5 6 7 8;" + CARD, 1, 7);
        fault("table +1 2 3 4 5 6 7 8 9;" + CARD, 1, 6);
        fault("table 1 2 3 4 5 6 7 8 .9;" + CARD, 1, 22);
        fault("table 0x1 2 3 4 5 6 7 8;" + CARD, 1, 7);
        WindowCards x = good("table 0 1 02 3 004 50 67 89 99;" + CARD, 1);
        int[] want = {0, 1, 2, 3, 4, 50, 67, 89, 99};
        for (int place = 0; place < 9; place++) {
            due("number " + place, x.worth(1 << place), want[place]);
        }
    }

    // "SIGNS ;"
    private static void signs() {
        String others = ",:<.!#-()?";
        for (int i = 0; i < others.length(); i++) {
            char other = others.charAt(i);
            fault("table 1 2 3 4 5 6 7 8 9" + other + CARD, 1, 23);
            fault(TABLE + "card ooooooooo 0" + other, 1, 40);
            fault(TABLE + CARD + other, 1, 41);
        }
        fault("table 1 2 3 4 5 6 7 8 9;;" + CARD, 1, 24);
        fault(TABLE + CARD + ";", 1, 41);
        fault("table; 1 2 3 4 5 6 7 8 9;" + CARD, 1, 5);
        fault("table 1; 2 3 4 5 6 7 8 9;" + CARD, 1, 7);
        fault(TABLE + "card; ooooooooo 0;", 1, 28);
        fault(TABLE + "card ooooooooo; 0;", 1, 38);
        fault(TABLE + "card ooooooooo 0 card ooooooooo 0;", 1, 41);
    }

    // "bytes 32 and 10 ahead of, between, behind these, as many as wanted"
    private static void blanks() {
        String[] tokens = {"table", "1", "2", "3", "4", "5", "6", "7", "8", "9", ";", "card", "ooooooooo", "0", ";"};
        String[] blanks = {" ", "\n", "  ", "\n\n", " \n ", "\n \n\n "};
        for (String blank : blanks) {
            good(blank + String.join(blank, tokens) + blank, 1);
        }
        int[] noBlanks = {9, 11, 12, 13, 31, 33, 0, 160, 255};
        for (int b : noBlanks) {
            fault((char) b + TABLE + CARD, 1, 0);
            fault(TABLE + (char) b + CARD, 1, 24);
            fault(TABLE + CARD + (char) b, 1, 41);
        }
        good("table 1 2 3 4 5 6 7 8 9" + " ".repeat(400 - 23 - 18) + ";" + CARD, 1);
    }

    // "(none is needed where one ends without)"
    private static void noneIsNeeded() {
        good("table1 2 3 4 5 6 7 8 9;card ooooooooo0;", 1);
        good("table1\n2\n3\n4\n5\n6\n7\n8\n9;card\nooooooooo0;card xxxxxxxxx1;", 2);
        fault("table123 4 5 6 7 8 9;" + CARD, 2, 5);
        fault("table12 3 4 5 6 7 8 9;" + CARD, 1, 21);
        fault(TABLE + "cardooooooooo0;", 1, 24);
        fault(TABLE + "card ooooooooo0" + CARD, 1, 39);
    }

    // "'table' and nine NUMBERS (0 to 99) ';'": how many
    private static void nineNumbers() {
        fault("table;" + CARD, 1, 5);
        fault("table 1 2 3 4 5 6 7 8;" + CARD, 1, 21);
        fault("table 1 2 3 4 5 6 7 8 9 0;" + CARD, 1, 24);
        fault("table 1 2 3 4 5 6 7 8 9 card", 1, 24);
        fault(CARD, 1, 0);
        fault("1 2 3 4 5 6 7 8 9;" + CARD, 1, 0);
        fault(TABLE + TABLE + CARD, 1, 24);
        fault(TABLE + CARD + TABLE + CARD, 1, 41);
    }

    // "NUMBERS (0 to 99)"; "2 a NUMBER that is not as told", at each of the nine
    private static void numbersAsTold() {
        int[] tooMany = {100, 101, 110, 999};
        for (int at = 0; at < 9; at++) {
            String ahead = "table" + " 0".repeat(at);
            String behind = " 0".repeat(8 - at) + ";" + CARD;
            due("99 at " + at, good(ahead + " 99" + behind, 1).worth(1 << at), 99);
            for (int number : tooMany) {
                fault(ahead + " " + number + behind, 2, ahead.length() + 1);
            }
        }
    }

    // "a NAME of nine letters o, a hole, or x, none, for PLACES 0 .. 8"
    private static void holesOfNine() {
        for (int place = 0; place < 9; place++) {
            String ahead = "x".repeat(place);
            String behind = "x".repeat(8 - place);
            due("hole " + place, good(TABLE + "card " + ahead + "o" + behind + " 0;", 1).holes(0, 0), 1 << place);
            String others = "npwyaz";
            for (int i = 0; i < others.length(); i++) {
                fault(TABLE + "card " + ahead + others.charAt(i) + behind + " 0;", 1, 29);
            }
            fault(TABLE + "card " + ahead + "0" + behind + " 0;", 1, 29);
        }
        due("no holes", good(TABLE + "card xxxxxxxxx 0;", 1).holes(0, 0), 0);
        due("all holes", good(TABLE + "card ooooooooo 0;", 1).holes(0, 0), 511);
        fault(TABLE + "card oooooooo 0;", 1, 29);
        fault(TABLE + "card oooooooooo 0;", 1, 29);
        fault(TABLE + "card o 0;", 1, 29);
        fault(TABLE + "card " + "o".repeat(100) + " 0;", 1, 29);
        fault(TABLE + "card  table 0;", 1, 30);
        fault(TABLE + "card  0;", 1, 30);
    }

    // "HAND 0 or 1"
    private static void hands() {
        due("hand 0", good(TABLE + "card ooooooooo 0;", 1).now(5), 1);
        due("hand 1", good(TABLE + "card ooooooooo 1;", 1).now(6), 1);
        int[] wrongHands = {2, 3, 9, 10, 11, 99, 100, 101, 256, 512, 999};
        for (int hand : wrongHands) {
            fault(TABLE + "card ooooooooo " + hand + ";", 2, 39);
        }
        fault(TABLE + "card ooooooooo 1000;", 1, 39);
        fault(TABLE + "card ooooooooo;", 1, 38);
        fault(TABLE + "card ooooooooo -0;", 1, 39);
    }

    // "CARDS 0 .. 13, 14 at most"; "3 a card more than there is room for (its word)"
    private static void cardsAtMost() {
        for (int n = 1; n <= 14; n++) {
            WindowCards x = good(TABLE + cards(n), n);
            due("the last card", x.holes(n - 1, 0), 511);
            due("none behind it", x.holes(n, 0), BAD);
            due("all in the hand", x.now(5), (1 << n) - 1);
        }
        String most = TABLE + cards(14);
        fault(most + CARD, 3, 262);
        fault(most + CARD + CARD, 3, 262);
        fault(most + "card", 3, 262);
        fault(most + " \n card", 3, 265);
        fault(most + "card;", 3, 262);
        fault(most + "card ooooooooo 2;", 3, 262);
    }

    // "game: table card { card }"
    private static void oneCardAtLeast() {
        fault(TABLE, 1, 24);
        fault(TABLE + " ", 1, 25);
        fault(TABLE + "\n\n\n", 1, 27);
        good(TABLE + CARD, 1);
        good(TABLE + CARD + "\n", 1);
    }

    // "(.. the end: how many bytes there are)"
    private static void theEnd() {
        fault("", 1, 0);
        fault(" ", 1, 1);
        fault(" ".repeat(400), 1, 400);
        fault("table", 1, 5);
        fault("table 1 2 3 4 5 6 7 8 9", 1, 23);
        fault("table 1 2 3 4 5 6 7 8 9  ", 1, 25);
        fault(TABLE + "card", 1, 28);
        fault(TABLE + "card ", 1, 29);
        fault(TABLE + "card ooooooooo", 1, 38);
        fault(TABLE + "card ooooooooo ", 1, 39);
        fault(TABLE + "card ooooooooo 0", 1, 40);
        fault(TABLE + "card ooooooooo 0\n", 1, 41);
        fault(TABLE + CARD + "card", 1, 45);
        String begun = TABLE + cards(13) + "card ooooooooo 0";
        fault(begun + " ".repeat(400 - begun.length()), 1, 400);
        // A NAME that the end cuts is another NAME: it stands at its first byte.
        fault("tabl", 1, 0);
        fault(TABLE + "car", 1, 24);
        fault(TABLE + "card oooooooo", 1, 29);
    }

    // "(a run of four figures or more, at its first ..)"
    private static void figures() {
        fault("table 000 0000 3 4 5 6 7 8 9;" + CARD, 1, 10);
        fault("table 1000 2 3 4 5 6 7 8 9;" + CARD, 1, 6);
        fault("table 00000000001 2 3 4 5 6 7 8 9;" + CARD, 1, 6);
        fault("table" + "9".repeat(395), 1, 5);
        fault(TABLE + "card ooooooooo 0000;", 1, 39);
        fault(TABLE + "card ooooooooo0001;", 1, 38);
        fault("0000" + TABLE, 1, 0);
        fault(TABLE + "0000", 1, 24);
        fault(TABLE + CARD + "4294967296", 1, 41);
    }

    // "FAULTS, the first TOKEN that has one"
    private static void firstToken() {
        fault("table 100 x 3 4 5 6 7 8 9;" + CARD, 2, 6);
        fault("table x 100 3 4 5 6 7 8 9;" + CARD, 1, 6);
        fault("table 1 2 3 4 5 6 7 8 100" + CARD, 2, 22);
        fault(TABLE + "card ooooooooo 2 2", 2, 39);
        fault(TABLE + "card oooooooo 2;", 1, 29);
        fault(TABLE + "card ooooooooo 2;#", 2, 39);
        fault("table 100 2 3 4 5 6 7 8 9;" + cards(15), 2, 6);
        fault(TABLE + cards(13) + "card ooooooooo 2;card", 2, 260);
        fault("# table 100", 1, 0);
    }

    // "of one TOKEN the least"
    private static void leastFault() {
        fault("999" + TABLE, 1, 0);
        fault("table 1 2 3 4 5 6 7 8 9 100;" + CARD, 1, 24);
        fault(TABLE + "100", 1, 24);
        fault(TABLE + "card 100 0;", 1, 29);
        fault(TABLE + CARD + "100", 1, 41);
        fault(TABLE + cards(14) + "table", 1, 262);
        fault(TABLE + cards(14) + "cards", 1, 262);
        fault(TABLE + cards(14) + "100", 1, 262);
        fault(TABLE + cards(14) + "ooooooooo", 1, 262);
        fault(TABLE + cards(14) + "#", 1, 262);
    }

    // "HAND 0 to play (HAND 1, if that has no CARD)"
    private static void handToPlay() {
        due("0 alone", good(TABLE + CARD, 1).now(2), 0);
        due("1 alone", good(TABLE + "card ooooooooo 1;", 1).now(2), 1);
        due("1 alone, many", good(TABLE + "card ooooooooo 1;".repeat(14), 14).now(2), 1);
        due("both", good(TABLE + CARD + "card ooooooooo 1;", 2).now(2), 0);
        due("0 with the last", good(TABLE + "card ooooooooo 1;".repeat(13) + CARD, 14).now(2), 0);
    }

    // "A GAME that is read stands in place of the one before ..: all CARDS in their HANDS, no heap, ..
    // IMAGES and ROWS stay."
    private static void standsInPlace() {
        WindowCards x = good(TABLE + cards(2) + "card xxxxxxxxx 1;", 3);
        x.row(3, 0, 7);
        x.image(1);
        x.play(0, 0);
        x.play(2, 0);
        x.play(1, 0);
        x.ask(0, 0);
        x.set(3, 7, 0);
        due("another", read(x, "table 9 8 7 6 5 4 3 2 1;card oxxxxxxxx 1;card xxxxxxxxo 1;"), 2);
        int[] want = {511, 0, 1, 0, 0, 0, 3, 0};
        for (int what = 0; what < 8; what++) {
            due("now " + what, x.now(what), want[what]);
        }
        due("none played", x.count(2), 0);
        due("its table", x.worth(1), 9);
        due("its cards", x.holes(0, 0) + x.holes(1, 0), 257);
        due("no card 2", x.holes(2, 0), BAD);
        due("rows stay", x.count(0), 1);
        due("status stays", x.status(), 2);
        due("the trace stays", x.trace(0), 12);
        due("image 0: none was kept", x.restore(0), WindowCards.STATE);
        due("images stay", x.restore(1), 1);
        due("the one before", x.count(1), 3);
        due("the items stay", x.drop(3), 7);
        // A card more, and a card less, than the game before.
        due("more", read(x, TABLE + cards(14)), 14);
        due("less", read(x, TABLE + CARD), 1);
        due("card 1 is gone", x.kind(1), BAD);
        due("one left", x.now(5), 1);
    }

    // "-1000100 less the place of a FAULT: all but the tape, and what fault() tells, stays"
    private static void faultStays() {
        String[] wrongTexts = {"", "#", "table 9 9 9 9 9 9 9 9 9;", "table 9 9 9 9 9 9 9 9 9;card xxxxxxxxx 1;#",
            "table 9 9 9 9 9 9 9 9 9;card xxxxxxxxx 1;card xxxxxxxxx 2;",
            "table 9 9 9 9 9 9 9 9 9;" + "card xxxxxxxxx 1;".repeat(15)};
        for (String text : wrongTexts) {
            WindowCards x = good(TABLE + "card oxxxxxxxx 0;card ooxxxxxxx 1;card xxxxxxxxx 0;card ooooooooo 1;", 4);
            x.image(0);
            x.play(0, 0);
            x.row(2, 1, 4);
            x.ask(1, 1);
            x.drop(7);
            x.image(1);
            String ahead = seen(x);
            due("a fault of '" + text + "'", read(x, text) <= -1000100, true);
            due("as it was behind '" + text + "'", seen(x), ahead);
            x.restore(0);
            due("image 0 behind '" + text + "'", x.count(2), 0);
            x.restore(1);
            due("image 1 behind '" + text + "'", seen(x), ahead);
        }
        WindowCards y = new WindowCards();
        due("no game yet", read(y, TABLE + CARD + "#"), -1000141);
        due("no game still", y.now(0), WindowCards.STATE);
        due("no image of it", y.image(0), WindowCards.STATE);
        due("no card", y.holes(0, 0), BAD);
    }

    private static String seen(WindowCards x) {
        StringBuilder seen = new StringBuilder();
        for (int i = 0; i < 8; i++) {
            seen.append(x.now(i)).append(' ');
        }
        for (int i = 0; i < 4; i++) {
            seen.append(x.count(i)).append(' ');
        }
        for (int i = 0; i < 9; i++) {
            seen.append(x.worth(1 << i)).append(' ');
        }
        for (int i = 0; i < 15; i++) {
            seen.append(x.holes(i, 1)).append(' ').append(x.trace(i)).append(' ');
        }
        return seen.append(x.status()).toString();
    }

    // "The number of the latest FAULT; 0 before one."
    private static void faultTold() {
        WindowCards x = new WindowCards();
        due("before one", x.fault(), 0);
        read(x, TABLE + CARD);
        due("before one, behind a game", x.fault(), 0);
        read(x, TABLE + "card ooooooooo 2;");
        due("2", x.fault(), 2);
        read(x, TABLE + CARD);
        due("2 behind a game", x.fault(), 2);
        x.feed(0, 9);
        x.row(0, 0, -1);
        x.play(5, 5);
        due("2 behind other refusals", x.fault(), 2);
        read(x, TABLE + cards(15));
        due("3", x.fault(), 3);
        x.image(0);
        read(x, "x");
        due("1", x.fault(), 1);
        x.restore(0);
        due("1 behind a restore", x.fault(), 1);
    }
}
