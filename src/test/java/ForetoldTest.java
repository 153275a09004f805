/** Promises 15 to 22: best, mean, fewest, triples, alike, fit, image, restore. */
public final class ForetoldTest {
    private static final String TABLE = "table 1 2 4 8 16 32 64 98 99;";
    private static final int NONE = WindowCards.NONE, BAD = WindowCards.BAD, STATE = WindowCards.STATE;
    private static int wrong = 0;

    private static void due(String call, long got, long want) {
        if (got != want) {
            wrong++;
            System.out.println(call + " answered " + got + ", due is " + want);
        }
    }

    public static void main(String[] args) {
        noGame();
        bests();
        bestRefused();
        means();
        meansRefused();
        fewests();
        fewestRefused();
        triples();
        alikes();
        fits();
        images();
        if (wrong != 0) {
            System.exit(1);
        }
    }

    private static int read(WindowCards x, String text) {
        for (int i = 0; i < text.length(); i++) {
            x.feed(text.charAt(i), 1);
        }
        return x.game();
    }

    private static WindowCards game(String text) {
        WindowCards x = new WindowCards();
        read(x, text);
        return x;
    }

    private static void noGame() {
        WindowCards x = new WindowCards();
        due("best", x.best(0), STATE);
        due("best ahead", x.best(2), STATE);
        due("mean", x.mean(0, 0, 0), BAD);
        due("fewest", x.fewest(0, -1), STATE);
        due("fewest ahead", x.fewest(-1, -2), STATE);
        due("triples", x.triples(-1), STATE);
        due("triples ahead", x.triples(-2), STATE);
        due("alike", x.alike(0, 0), BAD);
        due("fit", x.fit(0, 0, -1), STATE);
        due("fit ahead", x.fit(-1, 0, 0), STATE);
        due("image", x.image(0), STATE);
        due("image BAD ahead", x.image(2), BAD);
        due("restore", x.restore(1), STATE);
        due("restore BAD ahead", x.restore(-1), BAD);
    }

    private static void bests() {
        // One card: the corner 8 (99) is reached first by WAY 2.
        WindowCards x = game(TABLE + "card oxxxxxxxx 0;");
        due("one card", x.best(0), 99);
        due("its play", x.best(1), 2);
        x.play(0, 0);
        due("no cards", x.best(0), NONE);
        due("no play", x.best(1), NONE);
        // Even cards: WAY 0 of the least card is first.
        WindowCards y = game(TABLE + "card ooooooooo 1;card ooooooooo 1;");
        due("same hand again", y.best(0), 648);
        due("first play", y.best(1), 0);
        // HAND 0 does better to leave nothing, as HAND 1 lays all nine behind it.
        WindowCards z = game("table 1 0 0 0 0 0 0 0 0;card oxxxxxxxx 0;card ooooooooo 1;");
        due("what is got is got", z.best(0), 0);
        due("either way", z.best(1), 0);
        due("hand 1's turn", z.play(0, 0), 1);
        due("hand 1's lead", z.best(0), 1);
        due("hand 1's play", z.best(1), 8);
        // 3 and 3 for HAND 0, and 3 for HAND 1, who would get nothing where it shuts all.
        WindowCards w = game("table 0 3 0 0 0 0 0 0 0;card xoxxxxxxx 0;card ooooooooo 0;card xoxxxxxxx 1;");
        due("lead ahead", w.best(0), 3);
        due("nothing changes", w.now(1), 0);
        due("its play is", w.best(1), 0);
    }

    private static void bestRefused() {
        StringBuilder text = new StringBuilder(TABLE);
        for (int i = 0; i < 5; i++) {
            text.append("card ooooooooo 0;");
        }
        WindowCards x = game(text.toString());
        due("five", x.best(0), NONE);
        due("five's play", x.best(1), NONE);
        due("what 2", x.best(2), BAD);
        due("what -1", x.best(-1), BAD);
        x.play(2, 0);
        due("four", x.best(0), 4 * 324);
        due("four's play", x.best(1), 0);
        x.play(0, 0);
        due("three", x.best(0), 3 * 324);
        due("three's play", x.best(1), 8);
    }

    private static void fraction(String what, WindowCards x, int card, int way, int above, int below) {
        due(what + " above", x.mean(card, way, 0), above);
        due(what + " below", x.mean(card, way, 1), below);
    }

    private static void means() {
        WindowCards x = game("table 1 0 0 0 0 0 0 0 7;card ooooooooo 0;card oxxxxxxxx 1;card xxxxoxxxx 0;");
        // HAND 1's corner shows 1, 0, 7, 0 twice each: 16 in 8.
        fraction("all nine", x, 0, 3, 6, 1);
        // A middle without worth; what HAND 1 lays then shuts all.
        fraction("nothing", x, 2, 0, 0, 1);
        x.play(0, 0);
        fraction("of hand 1", x, 1, 0, 1, 1);
        x.play(1, 0);
        fraction("other hand has none", x, 2, 0, 0, 1);
        WindowCards y = game("table 1 0 0 0 0 0 0 0 7;card xxxxxxxxx 0;card oxxxxxxxx 1;card ooooooooo 1;");
        // The heap is taken away ahead of HAND 1's play: less 16 and 64 in 16.
        fraction("behind a shut heap", y, 0, 0, -5, 1);
        WindowCards z = game("table 0 0 5 0 0 0 0 0 0;card ooooooooo 0;card oxxxxxxxx 1;card oxxxxxxxo 1;");
        // 5 twice in eight, and 5 four times in eight: 30 in 16; 5 less 15 by 8.
        fraction("lowest terms", z, 0, 0, 25, 8);
        due("nothing changes", z.now(1), 0);
        WindowCards w = game("table 0 0 5 0 0 0 0 0 0;card ooooooooo 1;card ooooooooo 1;");
        fraction("alone", w, 1, 0, 5, 1);
        WindowCards v = game("table 0 0 5 0 0 0 0 0 0;card oxxxxxxxx 0;card ooooooooo 1;");
        fraction("0 by 1", v, 0, 1, 0, 1);
        fraction("0 by 1, too", v, 0, 0, 0, 1);
    }

    private static void meansRefused() {
        WindowCards x = game(TABLE + "card ooooooooo 0;card oxxxxxxxx 1;");
        due("card -1", x.mean(-1, 0, 0), BAD);
        due("card 2", x.mean(2, 0, 0), BAD);
        due("way 8", x.mean(0, 8, 0), BAD);
        due("way -1", x.mean(0, -1, 0), BAD);
        due("what 2", x.mean(0, 0, 2), BAD);
        due("what -1", x.mean(0, 0, -1), BAD);
        due("other hand's", x.mean(1, 0, 0), STATE);
        due("BAD ahead of STATE", x.mean(1, 0, 2), BAD);
        x.play(0, 0);
        due("played", x.mean(0, 0, 0), STATE);
        x.play(1, 0);
        due("none left", x.mean(1, 0, 0), STATE);
    }

    private static void heap(WindowCards x, int places, int... plays) {
        due("fewest " + places, x.fewest(places, -1), plays.length);
        for (int k = 0; k < plays.length; k++) {
            due("fewest " + places + ", " + k, x.fewest(places, k), plays[k]);
        }
        due("fewest " + places + ", not so many", x.fewest(places, plays.length), NONE);
        due("fewest " + places + ", far", x.fewest(places, Integer.MAX_VALUE), NONE);
    }

    private static void fewests() {
        WindowCards x = game(TABLE + "card oooxxxxxx 0;card ooooooxxx 1;card oooxxxxxx 1;card ooooooooo 0;");
        heap(x, 511);
        heap(x, 7, 0);
        heap(x, 292, 1);
        heap(x, 63, 8);
        heap(x, 438, 9);
        // The middle row: of card 0 and 1 no way; only 1 with its like would do it, and there is none.
        due("middle row", x.fewest(56, -1), NONE);
        due("middle row's first", x.fewest(56, 0), NONE);
        heap(x, 3, 0, 11);
        heap(x, 1, 0, 19);
        heap(x, 0, 0, 10);
        x.play(0, 0);
        heap(x, 7, 0);
        WindowCards y = game(TABLE + "card oooooooxo 0;card ooooooooo 0;card oooooooxo 1;card oxooooooo 1;");
        heap(y, 511 - 2, 2);
        heap(y, 511 - 2 - 8, 1, 18);
        heap(y, 511 - 2 - 8 - 32, 1, 18, 25);
        heap(y, 511 - 2 - 8 - 128, 0, 17, 24);
        due("four would do", y.fewest(511 - 2 - 8 - 32 - 128, -1), NONE);
    }

    private static void fewestRefused() {
        WindowCards x = game(TABLE + "card ooooooooo 0;");
        due("places -1", x.fewest(-1, -1), BAD);
        due("places 512", x.fewest(512, -1), BAD);
        due("k -2", x.fewest(0, -2), BAD);
        due("k least", x.fewest(0, Integer.MIN_VALUE), BAD);
        due("none", x.fewest(0, -1), NONE);
        due("all nine", x.fewest(511, -1), 0);
        due("all nine's first", x.fewest(511, 0), NONE);
    }

    private static void triples() {
        WindowCards two = game(TABLE + "card xxxxxxxxx 0;card xxxxxxxxx 0;");
        due("two cards", two.triples(-1), 0);
        due("two cards' first", two.triples(0), NONE);
        // 0, 1, 2 leave a row each; 3, 4 shut one corner; 5 all.
        WindowCards x = game(TABLE + "card oooxxxxxx 0;card oooxxxxxx 0;card ooooooooo 1;"
                + "card xoooooooo 0;card ooooooooo 1;card xxxxxxxxx 1;");
        int seen = 0;
        for (int a = 0; a < 6; a++) {
            for (int b = a + 1; b < 6; b++) {
                for (int c = b + 1; c < 6; c++) {
                    if (a == 0 && b == 1 || c == 5) {
                        due("triple " + seen, x.triples(seen), 400 * a + 20 * b + c);
                        seen++;
                    }
                }
            }
        }
        due("triples", x.triples(-1), seen);
        due("not so many", x.triples(seen), NONE);
        due("far", x.triples(Integer.MAX_VALUE), NONE);
        due("i -2", x.triples(-2), BAD);
        x.play(0, 0);
        due("played ones, too", x.triples(-1), seen);
    }

    private static void alikes() {
        WindowCards x = game(TABLE + "card oxoooxxxx 0;card xxxxxxxxx 1;card oxxxoxoox 0;"
                + "card ooxxxxxxx 0;card xxxxxxxxx 0;card oxxoxxxxx 1;card oxxxxxxxo 1;");
        int[] classes = {0, 1, 0, 2, 1, 2, 3};
        int[] ways = {8, 1, 8, 8, 1, 8, 2};
        for (int card = 0; card < 7; card++) {
            due("class of " + card, x.alike(card, 0), classes[card]);
            due("ways of " + card, x.alike(card, 1), ways[card]);
        }
        WindowCards y = game(TABLE + "card ooooooxxx 0;");
        due("four ways", y.alike(0, 1), 4);
        due("what 2", x.alike(0, 2), BAD);
        due("what -1", x.alike(0, -1), BAD);
        due("card 7", x.alike(7, 0), BAD);
        due("card -1", x.alike(-1, 0), BAD);
    }

    private static void fits() {
        WindowCards x = game(TABLE + "card oooxxxxxx 0;card ooooooooo 1;card xxxxxxxxx 0;card xxxxoxxxx 1;");
        due("as it was", x.fit(511, 511, -1), 2);
        due("a row", x.fit(511, 7, -1), 1);
        due("a row's way", x.fit(511, 7, 0), 0);
        due("a column's way", x.fit(511, 292, 0), 1);
        due("another column's way", x.fit(511, 73, 0), 3);
        due("not so", x.fit(511, 7, 1), NONE);
        due("nothing shows", x.fit(16, 0, -1), 5);
        due("the middle stays", x.fit(16, 16, -1), 10);
        due("of the middle row", x.fit(56, 8, 0), 3);
        due("of the middle row, right", x.fit(56, 32, 0), 1);
        due("all shut", x.fit(511, 0, -1), 4);
        due("all shut's way", x.fit(511, 0, 2), 0);
        due("none can", x.fit(0, 1, -1), 0);
        due("none can, the card", x.fit(0, 1, 1), NONE);
        due("nothing ahead", x.fit(0, 0, -1), 15);
        x.play(0, 0);
        due("of all cards", x.fit(511, 7, -1), 1);
        due("ahead -1", x.fit(-1, 0, -1), BAD);
        due("ahead 512", x.fit(512, 0, -1), BAD);
        due("behind -1", x.fit(0, -1, -1), BAD);
        due("behind 512", x.fit(0, 512, -1), BAD);
        due("card -2", x.fit(0, 0, -2), BAD);
        due("card 4", x.fit(0, 0, 4), BAD);
    }

    private static void images() {
        WindowCards x = game(TABLE + "card oooxxxxxx 0;card ooooooooo 1;card xxxxxxxxx 0;card xxxxoxxxx 1;");
        due("image -1", x.image(-1), BAD);
        due("image 2", x.image(2), BAD);
        due("restore 2", x.restore(2), BAD);
        due("none kept", x.restore(0), STATE);
        x.play(0, 1);
        due("image 0", x.image(0), 1);
        x.play(1, 0);
        x.play(2, 0);
        due("image 1", x.image(1), 1);
        due("another game", read(x, "table 9 9 9 9 9 9 9 9 9;card oxxxxxxxx 1;"), 1);
        due("restore 0", x.restore(0), 1);
        int[] first = {292, 1, 1, 135, 0, 4, 10, 0};
        int[] second = {511, 0, 1, 135, 135, 0, 8, 1};
        for (int what = 0; what < 8; what++) {
            due("first " + what, x.now(what), first[what]);
        }
        due("cards", x.count(1), 4);
        due("played", x.count(2), 1);
        due("table", x.worth(511), 324);
        due("holes", x.holes(0, 0), 7);
        x.play(3, 0);
        due("restore 1", x.restore(1), 1);
        for (int what = 0; what < 8; what++) {
            due("second " + what, x.now(what), second[what]);
        }
        x.restore(0);
        due("the image is as it was", x.now(1), 1);
        due("and may be kept in the other", x.image(1), 1);
        x.play(1, 0);
        x.restore(1);
        due("the other", x.now(0), 292);
    }
}
