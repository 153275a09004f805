import java.util.function.IntSupplier;

/**
 * Promises 9 to 14 and 27 (CARDS), with PLACES and PLAYS, sentence by sentence: both sides of each bound,
 * the first and the last CARD, what a refused call leaves as it was, which refusal comes first.
 */
public final class PlayEdgesTest {
    private static final int NONE = WindowCards.NONE, BAD = WindowCards.BAD, STATE = WindowCards.STATE;
    private static final int NULL = -1000011, PLACE = -1000012;
    private static final int LEAST = Integer.MIN_VALUE, MOST = Integer.MAX_VALUE;
    private static final String TABLE = "table 1 2 4 8 16 32 64 98 99;";
    private static int wrong = 0;

    private static void due(String call, Object got, Object want) {
        if (!got.equals(want)) {
            wrong++;
            System.out.println(call + ": " + got + ", due is " + want);
        }
    }

    public static void main(String[] args) {
        noGame();
        cardsAndWays();
        places();
        quarterTurns();
        worths();
        playRefused();
        ofThePlayingHand();
        whatItGets();
        heapTaken();
        otherHand();
        playsNumbers();
        playsPlaces();
        playsItems();
        playsOrder();
        playsNothing();
        playsSum();
        playsToTheEnd();
        lotsNumbers();
        lotsLeft();
        lotsByNumbers();
        nowBounds();
        counts();
        if (wrong != 0) {
            System.exit(1);
        }
    }

    private static WindowCards game(String text) {
        WindowCards x = new WindowCards();
        for (int i = 0; i < text.length(); i++) {
            x.feed(text.charAt(i), 1);
        }
        due("cards of " + text, x.game() > 0, true);
        return x;
    }

    private static String nows(WindowCards x) {
        StringBuilder told = new StringBuilder();
        for (int what = 0; what < 8; what++) {
            told.append(x.now(what)).append(' ');
        }
        return told.append(x.count(2)).toString();
    }

    private static void stays(WindowCards x, String call, IntSupplier refused, int want) {
        String ahead = nows(x);
        due(call, refused.getAsInt(), want);
        due(call + " changes nothing", nows(x), ahead);
    }

    // "STATE: no GAME (ahead of BAD)"; without one there is no CARD: BAD
    private static void noGame() {
        WindowCards x = new WindowCards();
        int[] numbers = {LEAST, -1, 0, 1, 14, 512, MOST};
        x.row(0, 0, 14);
        for (int n : numbers) {
            due("holes " + n, x.holes(n, 0), BAD);
            due("play " + n, x.play(n, 0), BAD);
            due("worth " + n, x.worth(n), STATE);
            due("plays, row " + n, x.plays(n, 0, 1), STATE);
            due("plays, place " + n, x.plays(0, n, 1), STATE);
            due("plays, number " + n, x.plays(0, 0, n), STATE);
            due("lots " + n, x.lots(n, 1), STATE);
            due("lots, seed " + n, x.lots(1, n), STATE);
            due("now " + n, x.now(n), STATE);
        }
    }

    // "A CARD in a WAY 0 .. 7"; "holes .. BAD", "play .. BAD"
    private static void cardsAndWays() {
        for (int n = 1; n <= 14; n += 13) {
            WindowCards x = game(TABLE + "card ooooooooo 0;".repeat(n));
            int[] wrongCards = {LEAST, -1, n, n + 1, MOST, MOST / 8, MOST / 8 + 1, LEAST / 8};
            for (int card : wrongCards) {
                stays(x, "holes of card " + card, () -> x.holes(card, 0), BAD);
                stays(x, "play of card " + card, () -> x.play(card, 0), BAD);
            }
            int[] wrongWays = {LEAST, -1, 8, 9, 15, MOST};
            for (int way : wrongWays) {
                stays(x, "holes in way " + way, () -> x.holes(0, way), BAD);
                stays(x, "play in way " + way, () -> x.play(0, way), BAD);
            }
            for (int way = 0; way < 8; way += 7) {
                due("holes in way " + way, x.holes(0, way), 511);
                due("holes of the last in way " + way, x.holes(n - 1, way), 511);
            }
            due("play of the last in way 7", x.play(n - 1, 7), 324);
            due("holes of a played one", x.holes(n - 1, 7), 511);
        }
    }

    // "PLACES: x and 3 y."; "(x, y comes to 2 less y, x)"; "(x, y comes to 2 less x, y)"
    private static void places() {
        for (int from = 0; from < 9; from++) {
            StringBuilder holes = new StringBuilder("xxxxxxxxx");
            holes.setCharAt(from, 'o');
            WindowCards x = game(TABLE + "card " + holes + " 0;");
            for (int way = 0; way < 8; way++) {
                int at = from;
                if (way >= 4) {
                    at = 2 - at % 3 + 3 * (at / 3);
                }
                for (int i = 0; i < way % 4; i++) {
                    at = 2 - at / 3 + 3 * (at % 3);
                }
                due("place " + from + " in way " + way, x.holes(0, way), 1 << at);
            }
        }
    }

    // "WAY rest by 4 times a quarter turned to the right .. 4 and on: mirrored ahead of that"
    private static void quarterTurns() {
        WindowCards x = game(TABLE + "card ooxxxxxxx 0;");
        int[] want = {1 | 2, 4 | 32, 256 | 128, 64 | 8, 4 | 2, 256 | 32, 64 | 128, 1 | 8};
        for (int way = 0; way < 8; way++) {
            due("the corner's way " + way, x.holes(0, way), want[way]);
        }
    }

    // "WORTH of PLACES: their numbers, added."; "(0 to 511). BAD"
    private static void worths() {
        WindowCards x = game("table 99 99 99 99 99 99 99 99 99;card ooooooooo 0;");
        due("none", x.worth(0), 0);
        due("all", x.worth(511), 891);
        due("the last", x.worth(256), 99);
        int[] wrongPlaces = {-1, 512, 513, 1024, LEAST, MOST};
        for (int places : wrongPlaces) {
            stays(x, "worth " + places, () -> x.worth(places), BAD);
        }
        due("without worth", game("table 0 0 0 0 0 0 0 0 0;card ooooooooo 0;").worth(511), 0);
    }

    // "play .. BAD; STATE: the CARD is not in its HAND."
    private static void playRefused() {
        WindowCards x = game(TABLE + "card ooooooooo 0;card ooooooooo 1;card ooooooooo 0;");
        stays(x, "the other hand's", () -> x.play(1, 0), STATE);
        stays(x, "the other hand's, way 8", () -> x.play(1, 8), BAD);
        stays(x, "no such card", () -> x.play(3, 0), BAD);
        x.play(2, 0);
        stays(x, "the other hand's then", () -> x.play(0, 0), STATE);
        stays(x, "a played one", () -> x.play(2, 0), STATE);
        x.play(1, 0);
        stays(x, "its own played one", () -> x.play(2, 7), STATE);
        x.play(0, 0);
        for (int card = 0; card < 3; card++) {
            int played = card;
            stays(x, "none left, " + card, () -> x.play(played, 0), STATE);
            stays(x, "none left, way 8, " + card, () -> x.play(played, 8), BAD);
        }
        stays(x, "none left, no such card", () -> x.play(3, 0), BAD);
    }

    // "A PLAY of a HAND: a CARD it has still, in a WAY, is laid"
    private static void ofThePlayingHand() {
        WindowCards x = game(TABLE + "card ooooooooo 1;".repeat(7) + "card ooooooooo 0;".repeat(7));
        for (int i = 0; i < 14; i++) {
            for (int card = 0; card < 14; card++) {
                boolean in = (x.now(5 + x.now(2)) >> card & 1) == 1;
                due("played or of the other", x.mean(card, 0, 1) == STATE, !in);
            }
            due("play " + i, x.play(i % 2 == 0 ? 13 - i / 2 : i / 2, i % 8), 324);
            due("lie", x.now(1), i + 1);
        }
        due("all played", nows(x), "511 14 " + NONE + " 2268 2268 0 0 0 14");
    }

    // "it gets the WORTH of what SHOWS then"; "SHOWS: PLACES that are holes in all CARDS of the heap"
    private static void whatItGets() {
        WindowCards x = game(TABLE + "card ooooooxxx 0;card xxxoooooo 1;card xoxoooxox 0;card oooxxxxxx 1;");
        due("without any: all nine", x.now(0), 511);
        due("the first", x.play(0, 0), 63);
        due("shows", x.now(0), 63);
        due("the second", x.play(1, 0), 56);
        due("shows", x.now(0), 56);
        due("got is added", x.play(2, 0), 56);
        due("hand 0", x.now(3), 63 + 56);
        due("turned to the right column", x.play(3, 1), 32);
        due("hand 1", x.now(4), 56 + 32);
        due("one place shows", x.now(0), 32);
    }

    // "If nothing SHOWS, the heap is taken away."
    private static void heapTaken() {
        WindowCards x = game(TABLE + "card xxxxxxxxx 0;card oooxxxxxx 1;card xxxxxxxxx 0;card oxxxxxxxx 1;"
                + "card xxxxoxxxx 0;card ooooooooo 1;card xxxxxxxxx 0;");
        due("shut alone", x.play(0, 0), 0);
        due("taken", nows(x), "511 0 1 0 0 84 42 1 1");
        due("all nine behind it", x.play(1, 0), 7);
        due("shut on one", x.play(2, 0), 0);
        due("taken again", nows(x), "511 0 1 0 7 80 40 2 3");
        due("a corner", x.play(3, 0), 1);
        due("no place of it", x.play(4, 0), 0);
        due("and again", nows(x), "511 0 1 0 8 64 32 3 5");
        due("all", x.play(5, 0), 324);
        due("the last shuts", x.play(6, 0), 0);
        due("at the end", nows(x), "511 0 " + NONE + " 0 332 0 0 4 7");
        WindowCards y = game("table 0 0 0 0 0 0 0 0 0;card oxxxxxxxx 0;card oxxxxxxxx 0;");
        due("worth nothing, but it shows", y.play(0, 2), 0);
        due("lies on", nows(y), "256 1 0 0 0 2 0 0 1");
    }

    // "The other HAND is to play then, if it has a CARD; else the same one."
    private static void otherHand() {
        WindowCards x = game(TABLE + "card ooooooooo 0;card ooooooooo 1;card ooooooooo 0;card ooooooooo 0;");
        int[] cards = {0, 1, 2, 3};
        int[] behind = {1, 0, 0, NONE};
        for (int i = 0; i < 4; i++) {
            x.play(cards[i], 0);
            due("hand to play behind " + i, x.now(2), behind[i]);
        }
        WindowCards y = game(TABLE + "card ooooooooo 1;card ooooooooo 1;card ooooooooo 0;");
        int[] order = {2, 1, 0};
        int[] then = {1, 1, NONE};
        for (int i = 0; i < 3; i++) {
            y.play(order[i], 0);
            due("hand to play then " + i, y.now(2), then[i]);
        }
        // A heap that is taken away does not let the same HAND play on.
        WindowCards z = game(TABLE + "card xxxxxxxxx 0;card ooooooooo 1;card ooooooooo 0;");
        z.play(0, 0);
        due("behind a taken heap", z.now(2), 1);
    }

    private static WindowCards fourteen() {
        WindowCards x = game(TABLE + "card ooxxxxxxx 0;".repeat(14));
        x.row(0, 0, 40);
        for (int i = 0; i < 40; i++) {
            x.set(0, i, 8 * (i % 14));
        }
        return x;
    }

    // "n of them (1 to 14)"; "BAD: ROW, n"
    private static void playsNumbers() {
        int[] wrongNumbers = {0, -1, 15, 16, 40, LEAST, MOST};
        WindowCards x = fourteen();
        for (int n : wrongNumbers) {
            stays(x, "n " + n, () -> x.plays(0, 0, n), BAD);
        }
        for (int n = 1; n <= 14; n++) {
            WindowCards y = fourteen();
            due("plays " + n, y.plays(0, 0, n), 3 * n);
            due("played " + n, y.count(2), n);
        }
    }

    // "ITEMS of a ROW from i on"; "PLACE"
    private static void playsPlaces() {
        WindowCards x = fourteen();
        int[][] refused = {{-1, 1}, {LEAST, 1}, {40, 1}, {39, 2}, {27, 14}, {41, 1}, {MOST, 1}, {MOST, 14}, {-14, 14},
            {-1, 14}};
        for (int[] one : refused) {
            stays(x, "from " + one[0] + ", " + one[1], () -> x.plays(0, one[0], one[1]), PLACE);
            due("status", x.status(), 2);
        }
        due("the last 14", x.plays(0, 26, 14), 42);
        WindowCards y = fourteen();
        due("the last", y.plays(0, 39, 1), 3);
        due("its card", y.now(5), 16383 - (1 << 11));
        y.row(1, 0, 0);
        stays(y, "of none", () -> y.plays(1, 0, 1), PLACE);
        y.row(1, 0, 13);
        stays(y, "fourteen of 13", () -> y.plays(1, 0, 14), PLACE);
    }

    // "then BAD: an ITEM that is no PLAY of a CARD that there is"
    private static void playsItems() {
        for (int cards = 1; cards <= 14; cards += 13) {
            WindowCards x = game(TABLE + "card ooxxxxxxx 0;".repeat(cards));
            x.row(0, 2, 3);
            int[] wrongItems = {-1, -7, -8, -9, 8 * cards, 8 * cards + 1, 127, LEAST, MOST, NONE, BAD};
            for (int item : wrongItems) {
                x.set(0, 1, item);
                due("status of set", x.status(), 0);
                stays(x, "item " + item, () -> x.plays(0, 1, 1), BAD);
                stays(x, "item " + item + " behind another", () -> x.plays(0, 0, 2), BAD);
                due("status stays", x.status(), 0);
            }
            x.set(0, 1, 8 * cards - 1);
            due("the last play there is", x.plays(0, 1, 1), 1 + 8);
            due("its card", x.now(5), (1 << cards - 1) - 1);
        }
        // Items outside the run do not count.
        WindowCards y = game(TABLE + "card ooxxxxxxx 0;");
        y.row(0, 0, 3);
        y.set(0, 0, -1);
        y.set(0, 2, -1);
        due("between wrong ones", y.plays(0, 1, 1), 3);
    }

    // "BAD: ROW, n; STATE: no GAME (ahead of BAD); NULL; PLACE; then BAD: an ITEM ..; STATE: one whose .."
    private static void playsOrder() {
        WindowCards x = game(TABLE + "card ooooooooo 0;card ooooooooo 1;card ooooooooo 0;");
        x.row(0, 2, 3);
        x.set(0, 0, 8);
        x.set(0, 1, 24);
        stays(x, "BAD row, n", () -> x.plays(8, -1, 0), BAD);
        stays(x, "BAD n ahead of NULL", () -> x.plays(7, 0, 15), BAD);
        stays(x, "BAD n ahead of PLACE", () -> x.plays(0, -1, 0), BAD);
        due("status", x.status(), 0);
        stays(x, "NULL ahead of PLACE", () -> x.plays(7, -1, 1), NULL);
        due("status", x.status(), 1);
        stays(x, "PLACE ahead of a BAD item", () -> x.plays(0, 1, 3), PLACE);
        stays(x, "PLACE ahead of a STATE item", () -> x.plays(0, 0, 4), PLACE);
        due("status", x.status(), 2);
        stays(x, "a BAD item ahead of a STATE item", () -> x.plays(0, 0, 2), BAD);
        stays(x, "STATE", () -> x.plays(0, 0, 1), STATE);
        due("status stays", x.status(), 2);
        x.set(0, 1, 0);
        x.set(0, 2, 24);
        stays(x, "a BAD item behind good ones", () -> x.plays(0, 1, 2), BAD);
    }

    // "STATE: one whose CARD is not in the HAND that is to play by then (nothing is played)"
    private static void playsNothing() {
        WindowCards x = game(TABLE + "card oooxxxxxx 0;card xxxooooxx 1;card oxxxxxxxx 0;card ooooooooo 1;");
        int[][] refused = {{8}, {0, 16}, {0, 8, 0}, {0, 8, 16, 8}, {0, 8, 16, 24, 0}, {0, 0}, {16, 24, 0, 24}};
        x.row(0, 0, 40);
        for (int[] items : refused) {
            for (int i = 0; i < items.length; i++) {
                x.set(0, i, items[i]);
            }
            stays(x, "the last of " + items.length, () -> x.plays(0, 0, items.length), STATE);
        }
        int[] good = {0, 8, 16, 24};
        for (int i = 0; i < good.length; i++) {
            x.set(0, 5 + i, good[i]);
        }
        due("all in turn", x.plays(0, 5, 4), 7 - 0 + 1 - 1);
        due("all", nows(x), "1 2 " + NONE + " 8 1 0 0 1 4");
        stays(x, "none left", () -> x.plays(0, 5, 1), STATE);
        stays(x, "none left, no such card", () -> x.plays(0, 20, 14), STATE);
    }

    // "what HAND 0 gets by them less what HAND 1 gets"
    private static void playsSum() {
        WindowCards x = game(TABLE + "card ooooooxxx 1;card ooxxxxxxx 0;card ooooooooo 1;card xxxxxxxxx 0;"
                + "card oxxxxxxxx 1;");
        x.row(6, 1, 5);
        int[] items = {8, 16, 24, 0, 33};
        for (int i = 0; i < 5; i++) {
            x.set(6, i, items[i]);
        }
        due("one", x.plays(6, 0, 1), 3);
        due("another: less what hand 1 gets", x.plays(6, 1, 1), -3);
        due("what was got ahead does not count", x.plays(6, 2, 2), -63);
        due("hands", x.now(3) + 1000 * x.now(4), 66003);
        due("the last", x.plays(6, 4, 1), -4);
    }

    private static void playsToTheEnd() {
        WindowCards x = game(TABLE + "card ooooooooo 0;card ooooooooo 1;".repeat(7));
        x.row(1, 0, 14);
        for (int i = 0; i < 14; i++) {
            x.set(1, i, 8 * i + i % 8);
        }
        due("fourteen of two hands", x.plays(1, 0, 14), 0);
        due("all", nows(x), "511 14 " + NONE + " 2268 2268 0 0 0 14");
    }

    // "n PLAYS (1 to 14) by lots, by a SEED (1 to 999999)"; "BAD"
    private static void lotsNumbers() {
        WindowCards x = fourteen();
        int[] wrongNumbers = {0, -1, 15, 16, LEAST, MOST};
        for (int n : wrongNumbers) {
            stays(x, "lots " + n, () -> x.lots(n, 1), BAD);
        }
        int[] wrongSeeds = {0, -1, 1000000, 1000001, LEAST, MOST};
        for (int seed : wrongSeeds) {
            stays(x, "seed " + seed, () -> x.lots(1, seed), BAD);
        }
        due("seed 1", fourteen().lots(1, 1), 1);
        due("seed 999999", fourteen().lots(1, 999999), 1);
        for (int n = 1; n <= 14; n++) {
            WindowCards y = fourteen();
            due("lots " + n, y.lots(n, 999999), n);
            due("played " + n, y.count(2), n);
        }
    }

    // "how many were played (none where no CARDS are left)"
    private static void lotsLeft() {
        for (int cards = 1; cards <= 14; cards++) {
            WindowCards x = game(TABLE + "card ooooooooo 1;".repeat(cards));
            due("of " + cards, x.lots(14, 77), cards);
            stays(x, "none left", () -> x.lots(14, 77), 0);
            stays(x, "none left, BAD", () -> x.lots(0, 77), BAD);
            stays(x, "none left, BAD seed", () -> x.lots(1, 0), BAD);
        }
        WindowCards y = fourteen();
        due("nine", y.lots(9, 5), 9);
        due("five more", y.lots(14, 5), 5);
    }

    // "X becomes the rest of (X times 16807) by 2147483647; .. the one that is the rest of X by how many"
    private static void lotsByNumbers() {
        int[] seeds = {1, 2, 127773, 127774, 500000, 999998, 999999};
        for (int seed : seeds) {
            WindowCards x = game(TABLE + "card ooxxxxxxx 0;card oxoxxxxxx 1;card ooooooxxx 0;card oxooooooo 1;"
                    + "card oooooxoox 0;card ooooooxxx 0;card xxooooooo 1;card oooxoxoxx 0;");
            java.math.BigInteger lot = java.math.BigInteger.valueOf(seed);
            WindowCards y = game(TABLE + "card ooxxxxxxx 0;card oxoxxxxxx 1;card ooooooxxx 0;card oxooooooo 1;"
                    + "card oooooxoox 0;card ooooooxxx 0;card xxooooooo 1;card oooxoxoxx 0;");
            due("all eight", y.lots(8, seed), 8);
            for (int i = 0; i < 8; i++) {
                lot = lot.multiply(java.math.BigInteger.valueOf(16807)).mod(java.math.BigInteger.valueOf(2147483647));
                int hand = x.now(5 + x.now(2));
                int chosen = lot.mod(java.math.BigInteger.valueOf(8 * Integer.bitCount(hand))).intValue();
                int card = -1;
                for (int k = 0; k <= chosen / 8; k++) {
                    card = Integer.numberOfTrailingZeros(hand >> card + 1 << card + 1);
                }
                due("a card of the hand", x.play(card, chosen % 8) >= 0, true);
            }
            due("by seed " + seed, nows(y), nows(x));
        }
        // Two calls begin anew by their SEEDS: 16807 and 16807 again.
        WindowCards z = game(TABLE + "card ooxxxxxxx 0;card ooxxxxxxx 0;");
        z.lots(1, 1);
        due("16807 by 16 leaves 7: card 0 in way 7", z.now(0) + 1000 * z.now(5), 9 + 2000);
        z.lots(1, 1);
        due("16807 by 8 leaves 7: card 1 in way 7", z.now(0), 9);
    }

    // "0 what SHOWS, .. 7 how many heaps were taken away. BAD"
    private static void nowBounds() {
        WindowCards x = game(TABLE + "card ooxxxxxxx 0;");
        int[] wrongNumbers = {-1, 8, 9, LEAST, MOST};
        for (int what : wrongNumbers) {
            due("now " + what, x.now(what), BAD);
        }
        due("at first", nows(x), "511 0 0 0 0 1 0 0 0");
        x.play(0, 0);
        for (int what : wrongNumbers) {
            due("now " + what + " at the end", x.now(what), BAD);
        }
        due("at the end", nows(x), "3 1 " + NONE + " 3 0 0 0 0 1");
    }

    // "How many: 0 ROWS, 1 CARDS, 2 CARDS played so far, 3 bytes on the tape. BAD."
    private static void counts() {
        WindowCards x = new WindowCards();
        int[] wrongNumbers = {-1, 4, 5, LEAST, MOST};
        for (int what : wrongNumbers) {
            due("count " + what, x.count(what), BAD);
        }
        for (int what = 0; what < 4; what++) {
            due("count " + what, x.count(what), 0);
        }
        WindowCards y = fourteen();
        for (int i = 0; i < 14; i++) {
            due("played", y.count(2), i);
            due("cards", y.count(1), 14);
            y.play(i, 0);
        }
        due("all", y.count(2), 14);
        due("cards still", y.count(1), 14);
        y.feed(0, 7);
        due("bytes", y.count(3), 7);
        due("rows", y.count(0), 1);
    }
}
