/** Promises 9 to 14 and 27 (cards): ways, worth, plays one by one, by rows, by lots; now. */
public final class PlaysTest {
    private static final int NULL = -1000011, PLACE = -1000012;
    private static final String TABLE = "table 1 2 4 8 16 32 64 98 99;";
    private static int wrong = 0;

    private static void due(String call, long got, long want) {
        if (got != want) {
            wrong++;
            System.out.println(call + " answered " + got + ", due is " + want);
        }
    }

    public static void main(String[] args) {
        noGame();
        ways();
        worths();
        single();
        turns();
        heaps();
        rowsOfPlays();
        refusedRows();
        byLots();
        nows();
        if (wrong != 0) {
            System.exit(1);
        }
    }

    private static WindowCards game(String text) {
        WindowCards x = new WindowCards();
        for (int i = 0; i < text.length(); i++) {
            x.feed(text.charAt(i), 1);
        }
        x.game();
        return x;
    }

    private static void all(String run, WindowCards x, int... want) {
        for (int what = 0; what < 8; what++) {
            due(run + ": now " + what, x.now(what), want[what]);
        }
    }

    private static void noGame() {
        WindowCards x = new WindowCards();
        due("holes", x.holes(0, 0), WindowCards.BAD);
        due("worth", x.worth(0), WindowCards.STATE);
        due("worth ahead", x.worth(-1), WindowCards.STATE);
        due("play", x.play(0, 0), WindowCards.BAD);
        due("plays", x.plays(0, 0, 1), WindowCards.STATE);
        due("plays ahead", x.plays(-1, 0, 99), WindowCards.STATE);
        due("lots", x.lots(1, 1), WindowCards.STATE);
        due("lots ahead", x.lots(0, 0), WindowCards.STATE);
        due("now", x.now(0), WindowCards.STATE);
        due("now ahead", x.now(9), WindowCards.STATE);
    }

    private static void ways() {
        WindowCards x = game(TABLE + "card oxoooxxxx 0;");
        // o.o    .oo    ...    o..
        // oo.    .o.    .oo    .o.
        // ...    ..o    o.o    oo.
        int[] want = {1 | 4 | 8 | 16, 2 | 4 | 16 | 256, 16 | 32 | 64 | 256, 1 | 16 | 64 | 128,
            1 | 4 | 16 | 32, 4 | 16 | 128 | 256, 8 | 16 | 64 | 256, 1 | 2 | 16 | 64};
        for (int way = 0; way < 8; way++) {
            due("holes " + way, x.holes(0, way), want[way]);
        }
        due("way -1", x.holes(0, -1), WindowCards.BAD);
        due("way 8", x.holes(0, 8), WindowCards.BAD);
        due("card -1", x.holes(-1, 0), WindowCards.BAD);
        due("card 1", x.holes(1, 0), WindowCards.BAD);
        due("card far", x.holes(Integer.MAX_VALUE, 7), WindowCards.BAD);
        x.play(0, 0);
        due("holes of a played one", x.holes(0, 0), want[0]);
    }

    private static void worths() {
        WindowCards x = game(TABLE + "card ooooooooo 0;");
        int[] table = {1, 2, 4, 8, 16, 32, 64, 98, 99};
        for (int places = 0; places < 512; places++) {
            int sum = 0;
            for (int i = 0; i < 9; i++) {
                sum += (places >> i & 1) * table[i];
            }
            due("worth " + places, x.worth(places), sum);
        }
        due("worth -1", x.worth(-1), WindowCards.BAD);
        due("worth 512", x.worth(512), WindowCards.BAD);
    }

    private static void single() {
        WindowCards x = game(TABLE + "card ooxxxxxxx 0;card oxxxxxxxo 1;card ooooooooo 0;");
        due("not in the hand", x.play(1, 0), WindowCards.STATE);
        due("no card", x.play(3, 0), WindowCards.BAD);
        due("card -1", x.play(-1, 0), WindowCards.BAD);
        due("no way", x.play(0, 8), WindowCards.BAD);
        due("way -1", x.play(0, -1), WindowCards.BAD);
        due("BAD ahead of STATE", x.play(1, 8), WindowCards.BAD);
        all("nothing played", x, 511, 0, 0, 0, 0, 5, 2, 0);
        due("played so far", x.count(2), 0);
        due("play", x.play(0, 1), 4 + 32);
        all("one", x, 36, 1, 1, 36, 0, 4, 2, 0);
        due("played already", x.play(0, 1), WindowCards.STATE);
        due("play 1", x.play(1, 1), 4);
        all("two", x, 4, 2, 0, 36, 4, 4, 0, 0);
        due("played so far", x.count(2), 2);
        due("play 2", x.play(2, 7), 4);
        all("three", x, 4, 3, WindowCards.NONE, 40, 4, 0, 0, 0);
        due("none left", x.play(2, 7), WindowCards.STATE);
        due("played so far", x.count(2), 3);
        due("cards there are", x.count(1), 3);
    }

    private static void turns() {
        WindowCards x = game(TABLE + "card ooooooooo 0;card ooooooooo 1;card ooooooooo 1;card ooooooooo 1;");
        int[] hands = {0, 1, 1, 1};
        for (int i = 0; i < 4; i++) {
            due("hand to play", x.now(2), hands[i]);
            due("play", x.play(i, 0), 324);
        }
        all("all", x, 511, 4, WindowCards.NONE, 324, 972, 0, 0, 0);
        WindowCards y = game(TABLE + "card ooooooooo 1;card ooooooooo 0;card ooooooooo 0;");
        due("hand 0 first", y.now(2), 0);
        due("hand 1's card", y.play(0, 0), WindowCards.STATE);
        y.play(1, 0);
        y.play(0, 0);
        due("hand 0 again", y.now(2), 0);
    }

    private static void heaps() {
        WindowCards x = game(TABLE + "card oooxxxxxx 0;card oooxxxxxx 1;card xxxxxxxxx 0;card ooooooooo 1;");
        due("three", x.play(0, 0), 7);
        due("shut", x.play(1, 2), 0);
        all("taken", x, 511, 0, 0, 7, 0, 4, 8, 1);
        due("shut alone", x.play(2, 0), 0);
        all("taken again", x, 511, 0, 1, 7, 0, 0, 8, 2);
        due("afresh", x.play(3, 0), 324);
        all("one lies", x, 511, 1, WindowCards.NONE, 7, 324, 0, 0, 2);
        WindowCards y = game("table 0 0 0 0 0 0 0 0 5;card oooooooox 0;card ooooooooo 0;");
        due("worth 0 though it shows", y.play(0, 0), 0);
        all("lies", y, 255, 1, 0, 0, 0, 2, 0, 0);
    }

    private static void rowsOfPlays() {
        WindowCards x = game(TABLE + "card ooxxxxxxx 0;card oxxxxxxxo 1;card ooooooooo 0;card xoxxxxxxx 1;");
        x.row(3, 0, 6);
        x.set(3, 1, 1);
        x.set(3, 2, 9);
        x.set(3, 3, 23);
        x.set(3, 4, 30);
        x.set(7, 0, 0);
        due("findings ahead", x.status(), 1);
        due("plays", x.plays(3, 1, 2), 36 - 4);
        due("status", x.status(), 0);
        all("two", x, 4, 2, 0, 36, 4, 4, 8, 0);
        due("one more", x.plays(3, 3, 1), 4);
        due("the last", x.plays(3, 4, 1), 0);
        all("all", x, 511, 0, WindowCards.NONE, 40, 4, 0, 0, 1);
        due("none left", x.plays(3, 4, 1), WindowCards.STATE);
        WindowCards y = game(TABLE + "card ooooooooo 1;card ooooooooo 1;");
        y.row(0, 2, 2);
        y.set(0, 1, 8);
        due("hand 1 alone", y.plays(0, 0, 2), -648);
    }

    private static void refusedRows() {
        WindowCards x = game(TABLE + "card ooooooooo 0;card ooooooooo 1;card ooooooooo 0;");
        x.row(0, 2, 4);
        x.row(1, 2, 40);
        due("row 8", x.plays(8, 0, 1), WindowCards.BAD);
        due("row -1", x.plays(-1, 0, 1), WindowCards.BAD);
        due("n 0", x.plays(0, 0, 0), WindowCards.BAD);
        due("n 15", x.plays(1, 0, 15), WindowCards.BAD);
        due("n BAD ahead of NULL", x.plays(2, 0, 0), WindowCards.BAD);
        due("NULL", x.plays(2, -1, 1), NULL);
        due("status", x.status(), 1);
        due("i -1", x.plays(0, -1, 1), PLACE);
        due("status", x.status(), 2);
        due("beyond", x.plays(0, 4, 1), PLACE);
        due("over the end", x.plays(0, 3, 2), PLACE);
        due("i far", x.plays(0, Integer.MAX_VALUE, 14), PLACE);
        x.set(0, 0, 24);
        due("PLACE ahead of items", x.plays(0, 0, 5), PLACE);
        due("no such card", x.plays(0, 0, 1), WindowCards.BAD);
        due("status stays", x.status(), 2);
        x.set(0, 0, -1);
        due("item below", x.plays(0, 0, 1), WindowCards.BAD);
        x.set(0, 0, 8);
        x.set(0, 1, 24);
        due("BAD ahead of STATE", x.plays(0, 0, 2), WindowCards.BAD);
        due("wrong hand", x.plays(0, 0, 1), WindowCards.STATE);
        due("status stays", x.status(), 0);
        x.set(0, 0, 0);
        x.set(0, 1, 8);
        x.set(0, 2, 0);
        due("played twice", x.plays(0, 0, 3), WindowCards.STATE);
        all("nothing played", x, 511, 0, 0, 0, 0, 5, 2, 0);
        x.set(0, 2, 23);
        x.set(0, 3, 23);
        due("more than there are", x.plays(0, 0, 4), WindowCards.STATE);
        due("all", x.plays(0, 0, 3), 324);
        due("fourteen of none left", x.plays(1, 26, 14), WindowCards.STATE);
    }

    private static void byLots() {
        String text = TABLE + "card oxxxxxxxx 0;card oooooooox 1;card ooxooxxxx 0;card ooxoooooo 1;card ooooxoooo 0;";
        WindowCards x = game(text);
        due("n 0", x.lots(0, 1), WindowCards.BAD);
        due("n 15", x.lots(15, 1), WindowCards.BAD);
        due("seed 0", x.lots(1, 0), WindowCards.BAD);
        due("seed 1000000", x.lots(1, 1000000), WindowCards.BAD);
        due("seed 999999", game(text).lots(1, 999999), 1);
        all("nothing played", x, 511, 0, 0, 0, 0, 21, 10, 0);
        // 16807 mod 24 is 7: card 0 in WAY 7.
        due("one", x.lots(1, 1), 1);
        due("card 0", x.now(5), 20);
        due("way 7", x.now(0), 1);
        for (int seed = 1; seed <= 999999; seed += 142857) {
            WindowCards byLots = game(text);
            due("lots", byLots.lots(14, seed), 5);
            due("no more", byLots.lots(1, seed), 0);
            WindowCards byHand = game(text);
            playLots(byHand, 5, seed);
            for (int what = 0; what < 8; what++) {
                due("now " + what, byLots.now(what), byHand.now(what));
            }
        }
    }

    private static void playLots(WindowCards x, int n, long seed) {
        long lot = seed;
        for (int i = 0; i < n; i++) {
            lot = lot * 16807 % 2147483647;
            java.util.List<Integer> plays = new java.util.ArrayList<>();
            int hand = x.now(5 + x.now(2));
            for (int play = 0; play < 8 * x.count(1); play++) {
                if ((hand >> play / 8 & 1) == 1) {
                    plays.add(play);
                }
            }
            int play = plays.get((int) (lot % plays.size()));
            x.play(play / 8, play % 8);
        }
    }

    private static void nows() {
        WindowCards x = game(TABLE + "card ooooooooo 0;");
        due("now -1", x.now(-1), WindowCards.BAD);
        due("now 8", x.now(8), WindowCards.BAD);
        due("count -1", x.count(-1), WindowCards.BAD);
        due("count 4", x.count(4), WindowCards.BAD);
        due("count 1", x.count(1), 1);
    }
}
