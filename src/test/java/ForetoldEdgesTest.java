import java.util.function.IntSupplier;

/**
 * Promises 15 to 22, sentence by sentence: both sides of each bound, none and all, what a refused call
 * leaves as it was (and that nothing that is foretold changes anything), which refusal comes first.
 */
public final class ForetoldEdgesTest {
    private static final int NONE = WindowCards.NONE, BAD = WindowCards.BAD, STATE = WindowCards.STATE;
    private static final int LEAST = Integer.MIN_VALUE, MOST = Integer.MAX_VALUE;
    private static final String TABLE = "table 1 2 4 8 16 32 64 98 99;";
    private static final String MIDDLE = "table 0 0 0 0 7 0 0 0 0;";
    private static final String OPEN = "ooooooooo", CLOSED = "xxxxxxxxx";
    private static int wrong = 0;

    private static void due(String call, Object got, Object want) {
        if (!got.equals(want)) {
            wrong++;
            System.out.println(call + ": " + got + ", due is " + want);
        }
    }

    public static void main(String[] args) {
        noGame();
        bestOfFour();
        bestOfNone();
        bestWhat();
        bestLeads();
        bestFirst();
        meanRefused();
        meanAlone();
        meanOfWays();
        meanTerms();
        meanBehindTheHeap();
        fewestPlaces();
        fewestNumber();
        fewestOnce();
        fewestFirst();
        fewestOfAll();
        triplesNumber();
        triplesOfThree();
        triplesInSomeWays();
        alikeRefused();
        alikeClasses();
        alikeWays();
        fitPlaces();
        fitCards();
        fitWays();
        imageNumbers();
        imageKept();
        restoreKeepsTheRest();
        if (wrong != 0) {
            System.exit(1);
        }
    }

    private static int read(WindowCards x, String text) {
        for (int i = 0; i < text.length(); i++) {
            x.feed(text.charAt(i), 1);
        }
        return x.game();
    }

    /** A game of cards, each with its HAND as its last sign. */
    private static WindowCards game(String table, String... cards) {
        WindowCards x = new WindowCards();
        StringBuilder text = new StringBuilder(table);
        for (String card : cards) {
            text.append("card ").append(card).append(';');
        }
        due("cards of " + text, read(x, text.toString()), cards.length);
        return x;
    }

    private static String[] times(int n, String card) {
        String[] cards = new String[n];
        java.util.Arrays.fill(cards, card);
        return cards;
    }

    private static String nows(WindowCards x) {
        StringBuilder told = new StringBuilder();
        for (int what = 0; what < 8; what++) {
            told.append(x.now(what)).append(' ');
        }
        for (int what = 0; what < 4; what++) {
            told.append(x.count(what)).append(' ');
        }
        return told.append(x.status()).append(' ').append(x.fault()).toString();
    }

    private static void stays(WindowCards x, String call, IntSupplier asked, int want) {
        String ahead = nows(x);
        due(call, asked.getAsInt(), want);
        due(call + " changes nothing", nows(x), ahead);
    }

    // "BAD; STATE: no GAME (ahead of BAD)"; without one there is no CARD: BAD; image, restore: BAD ahead
    private static void noGame() {
        WindowCards x = new WindowCards();
        int[] numbers = {LEAST, -2, -1, 0, 1, 2, 14, 512, MOST};
        for (int n : numbers) {
            due("best " + n, x.best(n), STATE);
            due("mean " + n, x.mean(n, 0, 0), BAD);
            due("fewest " + n, x.fewest(n, -1), STATE);
            due("fewest 0, " + n, x.fewest(0, n), STATE);
            due("triples " + n, x.triples(n), STATE);
            due("alike " + n, x.alike(n, 0), BAD);
            due("fit " + n, x.fit(n, 0, -1), STATE);
            due("fit 0, " + n, x.fit(0, n, -1), STATE);
            due("fit 0, 0, " + n, x.fit(0, 0, n), STATE);
            due("image " + n, x.image(n), n == 0 || n == 1 ? STATE : BAD);
            due("restore " + n, x.restore(n), n == 0 || n == 1 ? STATE : BAD);
        }
    }

    // "with 4 CARDS left at most (else NONE)"
    private static void bestOfFour() {
        for (int hand = 0; hand < 2; hand++) {
            WindowCards x = game(TABLE, times(14, OPEN + " " + hand));
            for (int left = 14; left >= 1; left--) {
                boolean few = left <= 4;
                stays(x, "best 0 of " + left, () -> x.best(0), few ? 324 * left : NONE);
                stays(x, "best 1 of " + left, () -> x.best(1), few ? 8 * (14 - left) : NONE);
                x.play(14 - left, 0);
            }
        }
        String[] five = {OPEN + " 1", OPEN + " 0", OPEN + " 1", OPEN + " 0", OPEN + " 1"};
        WindowCards y = game(TABLE, five);
        due("five of two hands", y.best(0), NONE);
        y.play(3, 0);
        due("four of two hands", y.best(0), 324 - 324 + 324 + 324);
        y.play(0, 0);
        due("three of two hands", y.best(0), 324 - 324 - 324);
    }

    // "NONE: also no CARDS."
    private static void bestOfNone() {
        WindowCards x = game(TABLE, OPEN + " 0");
        stays(x, "one", () -> x.best(0), 324);
        stays(x, "its play", () -> x.best(1), 0);
        x.play(0, 0);
        stays(x, "none left", () -> x.best(0), NONE);
        stays(x, "no play left", () -> x.best(1), NONE);
        stays(x, "BAD with none left", () -> x.best(2), BAD);
    }

    // "by how much (what = 0), the PLAY (1) .. BAD"
    private static void bestWhat() {
        int[] wrongNumbers = {-1, 2, 3, LEAST, MOST};
        for (int cards = 4; cards <= 5; cards++) {
            WindowCards x = game(TABLE, times(cards, OPEN + " 0"));
            for (int what : wrongNumbers) {
                stays(x, "best " + what + " of " + cards, () -> x.best(what), BAD);
            }
        }
    }

    // "so that they get as much more than the other as they can, to the end .. from now on"
    private static void bestLeads() {
        WindowCards x = game("table 99 99 99 99 99 99 99 99 99;", CLOSED + " 0", OPEN + " 1", OPEN + " 1", OPEN + " 1");
        due("less than the other", x.best(0), -2673);
        due("its only card", x.best(1), 0);
        x.play(0, 5);
        due("the others alone", x.best(0), 2673);
        x.play(1, 0);
        due("what was got does not count", x.best(0), 1782);
        // 5 now would give HAND 1 5 twice; a corner without worth gives it nothing.
        WindowCards y = game("table 5 0 0 0 0 0 0 0 0;", "oxxxxxxxx 0", OPEN + " 1", OPEN + " 1");
        due("by all cards to the end", y.best(0), 0);
        due("not what is most now", y.best(1), 1);
        y.play(0, 0);
        due("5 twice", y.best(0), 10);
        // All nine behind the heap that is shut: 0 now, 45 less 45 then; else 45 less 45, and 0.
        WindowCards v = game("table 1 2 3 4 5 6 7 8 9;", CLOSED + " 0", OPEN + " 1", OPEN + " 0");
        due("as much the one way as the other", v.best(0), 0);
        due("the first then", v.best(1), 0);
        // The heap that lies counts: a corner lies, and only in it is something to get.
        WindowCards z = game("table 5 1 1 1 1 1 1 1 9;", "oxxxxxxxx 0", "oxxxxxxxo 1");
        z.play(0, 0);
        due("on the corner", z.best(0), 5);
        due("in way 0", z.best(1), 8);
        WindowCards w = game("table 5 1 1 1 1 1 1 1 9;", "oxxxxxxxx 0", "xxoxxxoxx 1");
        w.play(0, 0);
        due("turned to the corner", w.best(0), 5);
        due("in way 1", w.best(1), 9);
    }

    // "the PLAY (8 times the CARD, and the WAY), of several the first by these"
    private static void bestFirst() {
        WindowCards x = game(MIDDLE, "xxxxoxxxo 1", OPEN + " 0", "oxxxoxxxx 0", OPEN + " 0");
        due("the least card", x.best(1), 8);
        // A corner worth 3, at place 6: WAYS 3 and 7 come there; WAY 3 is first.
        WindowCards y = game("table 0 0 0 0 0 0 3 0 0;", "oxxxxxxxx 0", "oxxxxxxxx 0");
        due("the least way", y.best(1), 3);
        due("both on it", y.best(0), 6);
        y.play(0, 3);
        due("the other's least way", y.best(1), 8 + 3);
        // Nothing is worth anything: WAY 0 of the least CARD of the HAND.
        WindowCards z = game("table 0 0 0 0 0 0 0 0 0;", OPEN + " 1", OPEN + " 1", CLOSED + " 0", OPEN + " 0");
        due("nothing to get", z.best(0), 0);
        due("the first of its own", z.best(1), 16);
        z.play(3, 0);
        due("the first of the other's", z.best(1), 0);
        // The better one, though it is behind: 9 and 1, not 1 and 1.
        WindowCards w = game("table 1 1 1 1 1 1 1 1 1;", "oxxxxxxxx 0", OPEN + " 0");
        due("a later card", w.best(1), 8);
        due("it, and the corner", w.best(0), 10);
    }

    // "mean .. BAD; STATE: the CARD is not in the HAND that is to play."
    private static void meanRefused() {
        WindowCards x = game(TABLE, OPEN + " 0", OPEN + " 1", OPEN + " 0");
        int[] wrongCards = {-1, 3, LEAST, MOST, MOST / 8 + 1};
        for (int card : wrongCards) {
            stays(x, "card " + card, () -> x.mean(card, 0, 0), BAD);
        }
        int[] wrongWays = {-1, 8, LEAST, MOST};
        int[] wrongNumbers = {-1, 2, LEAST, MOST};
        for (int i = 0; i < 4; i++) {
            int way = wrongWays[i];
            int what = wrongNumbers[i];
            stays(x, "way " + way, () -> x.mean(0, way, 0), BAD);
            stays(x, "what " + what, () -> x.mean(0, 0, what), BAD);
            stays(x, "way " + way + " of the other hand's", () -> x.mean(1, way, 0), BAD);
            stays(x, "what " + what + " of the other hand's", () -> x.mean(1, 0, what), BAD);
        }
        stays(x, "the other hand's", () -> x.mean(1, 0, 0), STATE);
        stays(x, "the other hand's below", () -> x.mean(1, 7, 1), STATE);
        stays(x, "its last card, way 7", () -> x.mean(2, 7, 1), 1);
        x.play(0, 0);
        stays(x, "a played one", () -> x.mean(0, 0, 0), STATE);
        stays(x, "of hand 0 then", () -> x.mean(2, 0, 0), STATE);
        stays(x, "of hand 1 then", () -> x.mean(1, 0, 0), 0);
        x.play(1, 0);
        x.play(2, 0);
        for (int card = 0; card < 3; card++) {
            int played = card;
            stays(x, "none left, " + card, () -> x.mean(played, 0, 0), STATE);
        }
    }

    private static void fraction(String what, WindowCards x, int card, int way, int above, int below) {
        stays(x, what + " above", () -> x.mean(card, way, 0), above);
        stays(x, what + " below", () -> x.mean(card, way, 1), below);
    }

    // "(if it has none: nothing)"; "(0 is 0 by 1)"
    private static void meanAlone() {
        WindowCards x = game(TABLE, OPEN + " 1", OPEN + " 1");
        fraction("alone", x, 1, 3, 324, 1);
        x.play(0, 0);
        fraction("the last alone", x, 1, 3, 324, 1);
        WindowCards y = game(TABLE, CLOSED + " 0", OPEN + " 0");
        fraction("nothing alone", y, 0, 0, 0, 1);
        // The other HAND has played its last: the same one plays on, but that is not asked.
        WindowCards z = game(TABLE, OPEN + " 0", OPEN + " 1", OPEN + " 0", OPEN + " 0");
        z.play(0, 0);
        z.play(1, 0);
        fraction("the other has none any more", z, 2, 0, 324, 1);
    }

    // "the other HAND then plays one of its PLAYS, all alike likely"
    private static void meanOfWays() {
        // Of two cards, one open, one with the middle alone: 8 PLAYS each, though they lie one way alone.
        WindowCards x = game("table 1 0 0 0 2 0 0 0 0;", OPEN + " 0", OPEN + " 1", "xxxxoxxxx 1", "oxxxxxxxx 1");
        // 3 less (8 times 3, 8 times 2, twice 1) by 24: 72 less 42 by 24.
        fraction("three cards", x, 0, 0, 5, 4);
        x.play(0, 0);
        x.play(1, 0);
        WindowCards y = game("table 1 0 0 0 0 0 0 0 0;", OPEN + " 0", OPEN + " 0", "ooxxxxxxx 1");
        // The corner is open in two of eight WAYS of 'oo': 4 ways by two corners; 1 less 2 by 8.
        fraction("an edge and a corner", y, 0, 0, 3, 4);
        fraction("another of the hand", y, 1, 7, 3, 4);
    }

    // "fractions, told as two numbers in lowest terms (0 is 0 by 1)"
    private static void meanTerms() {
        String[] cards = times(14, CLOSED + " 1");
        cards[0] = OPEN + " 0";
        cards[13] = "oxxxxxxxx 1";
        // 13 cards of the other HAND, 104 PLAYS; the corner comes to place 0 in two of these.
        fraction("of 104", game("table 1 0 0 0 0 0 0 0 0;", cards), 0, 0, 51, 52);
        WindowCards x = game("table 0 0 5 0 0 0 0 0 0;", CLOSED + " 0", "oxxxxxxxx 1", CLOSED + " 1", CLOSED + " 1");
        fraction("the sign is above", x, 0, 0, -5, 12);
        WindowCards y = game("table 99 99 99 99 99 99 99 99 99;", CLOSED + " 0", OPEN + " 1");
        fraction("the least there is", y, 0, 0, -891, 1);
        WindowCards z = game("table 99 99 99 99 99 99 99 99 99;", OPEN + " 0", CLOSED + " 1");
        fraction("the most there is", z, 0, 0, 891, 1);
        fraction("as much as the other", game(TABLE, OPEN + " 0", OPEN + " 1"), 0, 0, 0, 1);
        fraction("nothing for both", game(TABLE, CLOSED + " 0", CLOSED + " 1"), 0, 0, 0, 1);
    }

    // "WORTH of this PLAY less that one's": on the heap as it lies then
    private static void meanBehindTheHeap() {
        WindowCards x = game(TABLE, "oxxxxxxxx 0", OPEN + " 1", "xxxxxxxxo 0", OPEN + " 1");
        fraction("on the heap's corner", x, 0, 0, 0, 1);
        fraction("on the last corner", x, 0, 2, 0, 1);
        x.play(0, 0);
        x.play(1, 0);
        fraction("the heap is taken away: all nine behind it", x, 2, 0, -324, 1);
        fraction("the heap is not: its corner", x, 2, 2, 0, 1);
        due("no heap was taken", x.now(7), 0);
    }

    // "FEWEST for PLACES (0 to 511)"; "BAD: k below -1, too"
    private static void fewestPlaces() {
        WindowCards x = game(TABLE, OPEN + " 0", CLOSED + " 1");
        int[] wrongPlaces = {-1, 512, 1023, LEAST, MOST};
        for (int places : wrongPlaces) {
            stays(x, "places " + places, () -> x.fewest(places, -1), BAD);
            stays(x, "places " + places + ", 0", () -> x.fewest(places, 0), BAD);
        }
        int[] wrongNumbers = {-2, -3, LEAST};
        for (int k : wrongNumbers) {
            stays(x, "k " + k, () -> x.fewest(511, k), BAD);
            stays(x, "k " + k + " where there is no heap", () -> x.fewest(1, k), BAD);
        }
        stays(x, "no place", () -> x.fewest(0, -1), 1);
        stays(x, "no place: the shut one", () -> x.fewest(0, 0), 8);
        stays(x, "all nine", () -> x.fewest(511, -1), 0);
        stays(x, "510", () -> x.fewest(510, -1), NONE);
    }

    // "how many (k = -1), the k-th ..; NONE: there is no such heap, not so many."; "(All nine: 0 CARDS.)"
    private static void fewestNumber() {
        WindowCards x = game(TABLE, "xoooooooo 0", "xoooooooo 1", "xoooooooo 0", "xoooooooo 1");
        int[] shut = {0, 1, 1 + 4, 1 + 4 + 64, 1 + 4 + 64 + 256};
        int[] many = {0, 1, 2, 3, NONE};
        for (int n = 0; n <= 4; n++) {
            int places = 511 - shut[n];
            due("how many to shut " + n, x.fewest(places, -1), many[n]);
            for (int k = 0; k < 6; k++) {
                boolean there = n < 4 && k < n;
                due(n + " shut, the " + k + "-th is there", x.fewest(places, k) != NONE, there);
            }
            due("far behind", x.fewest(places, MOST), NONE);
        }
        int[] three = {0, 8 + 1, 16 + 3};
        for (int k = 0; k < 3; k++) {
            due("the " + k + "-th", x.fewest(511 - 69, k), three[k]);
        }
    }

    // "of all CARDS that there are, each once"
    private static void fewestOnce() {
        WindowCards x = game(TABLE, "oooxxxxxx 0");
        due("a row", x.fewest(7, -1), 1);
        due("the same card would be needed twice", x.fewest(1, -1), NONE);
        due("nothing by one card alone", x.fewest(0, -1), NONE);
        WindowCards y = game(TABLE, "oooxxxxxx 0", "oooxxxxxx 1");
        due("two", y.fewest(1, -1), 2);
        due("nothing by two", y.fewest(0, -1), 2);
    }

    // "as few as can be, 3 at most, in WAYS by which just told PLACES SHOW; told by rising CARDS;
    // of several the first by PLAYS, one behind the other"
    private static void fewestFirst() {
        WindowCards x = game(TABLE, "ooxxxxxxx 0", "oooxxxxxx 1", "ooooooxxx 0", "oxxxxxxxx 1", "oxxxxxxxx 0");
        due("one is fewer than two", x.fewest(1, -1), 1);
        due("the first such", x.fewest(1, 0), 24);
        due("its second way", x.fewest(64, 0), 24 + 3);
        due("two of three rows", x.fewest(63, 0), 16);
        // An edge without its corners: of card 0 in WAY 0 and the first PLAY that leaves just that.
        due("an edge", x.fewest(2, -1), 2);
        due("the first card of it", x.fewest(2, 0), 0);
        due("the second card of it", x.fewest(2, 1), firstBehind(x, 2, 0));
        // The middle by two half cards, WAY 0 and WAY 2, ahead of WAY 1 and WAY 3.
        WindowCards y = game(TABLE, "ooooooxxx 0", "ooooooxxx 0");
        due("the middle row", y.fewest(56, -1), 2);
        due("its first", y.fewest(56, 0), 0);
        due("its second", y.fewest(56, 1), 8 + 2);
        due("the middle column's first", y.fewest(146, 0), 1);
        due("the middle column's second", y.fewest(146, 1), 8 + 3);
        // PLAYS are compared, not CARDS: WAY 0 of 0 with card 2 is ahead of WAY 1 of 0 with card 1.
        WindowCards z = game("table 1 1 1 1 1 1 1 1 1;", "oooxxxxxx 0", "oooxxxxxx 0", "xxxoxxoxx 0");
        due("a corner", z.fewest(1, 0), 0);
        due("and the next card", z.fewest(1, 1), 8 + 3);
        due("a corner by its way", z.fewest(256, 0), 1);
        due("and the next card's", z.fewest(256, 1), 8 + 2);
    }

    /** The first PLAY behind card 0 in WAY 0 by which just these PLACES show. */
    private static int firstBehind(WindowCards x, int places, int way) {
        for (int play = 8; play < 8 * x.count(1); play++) {
            if ((x.holes(0, way) & x.holes(play / 8, play % 8)) == places) {
                return play;
            }
        }
        return NONE;
    }

    // "of all CARDS that there are": of both HANDS, and played ones, too
    private static void fewestOfAll() {
        WindowCards x = game(TABLE, "oooxxxxxx 0", "oooxxxxxx 1");
        for (int i = 0; i <= 2; i++) {
            due("a corner, played " + i, x.fewest(1, -1), 2);
            due("its first, played " + i, x.fewest(1, 0), 0);
            due("its second, played " + i, x.fewest(1, 1), 8 + 3);
            due("the heap does not count", x.fewest(511, -1), 0);
            x.play(i, 0);
        }
    }

    // "how many (i = -1), the i-th; NONE: not so many. BAD"
    private static void triplesNumber() {
        WindowCards x = game(TABLE, times(14, CLOSED + " 0"));
        int[] wrongNumbers = {-2, -3, LEAST};
        for (int i : wrongNumbers) {
            stays(x, "triples " + i, () -> x.triples(i), BAD);
        }
        stays(x, "all there can be", () -> x.triples(-1), 364);
        stays(x, "the first", () -> x.triples(0), 22);
        stays(x, "the second", () -> x.triples(1), 23);
        stays(x, "the last of 0, 1", () -> x.triples(11), 33);
        stays(x, "the first of 0, 2", () -> x.triples(12), 43);
        stays(x, "the last of 0", () -> x.triples(77), 20 * 12 + 13);
        stays(x, "the first of 1", () -> x.triples(78), 400 + 43);
        stays(x, "the last", () -> x.triples(363), 400 * 11 + 20 * 12 + 13);
        stays(x, "not so many", () -> x.triples(364), NONE);
        stays(x, "far behind", () -> x.triples(MOST), NONE);
        WindowCards y = game(TABLE, times(14, OPEN + " 0"));
        stays(y, "none", () -> y.triples(-1), 0);
        stays(y, "none to tell", () -> y.triples(0), NONE);
    }

    // "sets of three CARDS"
    private static void triplesOfThree() {
        for (int n = 1; n <= 4; n++) {
            WindowCards x = game(TABLE, times(n, CLOSED + " 1"));
            due("of " + n, x.triples(-1), n < 3 ? 0 : n == 3 ? 1 : 4);
            due("the first of " + n, x.triples(0), n < 3 ? NONE : 22);
            due("the second of " + n, x.triples(1), n < 4 ? NONE : 23);
        }
        WindowCards y = game(TABLE, times(4, CLOSED + " 0"));
        y.play(0, 0);
        y.play(2, 0);
        due("played ones, too", y.triples(-1), 4);
    }

    // "of which in some WAYS nothing SHOWS"
    private static void triplesInSomeWays() {
        due("as they lie, a row stays", game(TABLE, times(3, "oooxxxxxx 0")).triples(-1), 1);
        due("three with half each", game(TABLE, times(3, "ooooooxxx 0")).triples(-1), 0);
        // Two shut a half each by turning; the middle row stays, unless the third turns it away.
        due("the middle row stays", game(TABLE, "ooooooxxx 0", "ooooooxxx 0", "xxxoooxxx 0").triples(-1), 0);
        due("two sides of it", game(TABLE, "ooooooxxx 0", "ooooooxxx 0", "oxooxooxo 0").triples(-1), 1);
        due("the middle stays", game(TABLE, times(3, "xxxxoxxxx 0")).triples(-1), 0);
        due("but for one", game(TABLE, "xxxxoxxxx 0", "xxxxoxxxx 0", "ooooxoooo 1").triples(-1), 1);
        // With an open one: by the two others alone.
        due("by two of them", game(TABLE, "oxooxxxxx 0", OPEN + " 0", "xoxxooooo 1").triples(-1), 1);
    }

    // "alike .. CLASS of a CARD (what = 0), in how many ways it lies (1). BAD."
    private static void alikeRefused() {
        WindowCards x = game(TABLE, OPEN + " 0", OPEN + " 1");
        int[] wrongCards = {-1, 2, LEAST, MOST};
        int[] wrongNumbers = {-1, 2, LEAST, MOST};
        for (int i = 0; i < 4; i++) {
            int card = wrongCards[i];
            int what = wrongNumbers[i];
            stays(x, "card " + card, () -> x.alike(card, 0), BAD);
            stays(x, "ways of card " + card, () -> x.alike(card, 1), BAD);
            stays(x, "what " + what, () -> x.alike(0, what), BAD);
        }
        stays(x, "the last card", () -> x.alike(1, 0), 0);
        stays(x, "the last card's ways", () -> x.alike(1, 1), 1);
        x.play(0, 0);
        stays(x, "a played one", () -> x.alike(0, 0), 0);
        WindowCards y = game(TABLE, times(14, OPEN + " 0"));
        due("card 13", y.alike(13, 0), 0);
        due("card 14", y.alike(14, 0), BAD);
    }

    // "CARDS of which one, in some WAY, is as the other in WAY 0: CLASSES 0, 1 .. by their least CARDS"
    private static void alikeClasses() {
        WindowCards x = game(TABLE, "xxxxxxxxx 0", "oxxxxxxxx 0", "xoxxxxxxx 0", "xxxxoxxxx 0", "ooxxxxxxx 0",
                "oxoxxxxxx 0", "oxxxoxxxx 0", "oxxxxoxxx 0", "oxxxxxxxo 0", "xoxoxxxxx 0", "xoxxoxxxx 0",
                "xoxxxxxox 0", "ooooooooo 0", "ooooxoooo 0");
        for (int card = 0; card < 14; card++) {
            due("all unlike: " + card, x.alike(card, 0), card);
        }
        WindowCards y = game(TABLE, times(14, "oxxxxxxxo 1"));
        for (int card = 0; card < 14; card++) {
            due("all alike: " + card, y.alike(card, 0), 0);
        }
        // The eight ways of one card, ahead of them another, behind them the first again.
        WindowCards z = game(TABLE, "xoxoooxox 0", "oxoooxxxx 0", "xooxoxxxo 1", "xxxxoooxo 0", "oxxxoxoox 1",
                "oxoxooxxx 0", "xxoxoxxoo 1", "xxxooxoxo 0", "ooxxoxoxx 1", "xoxoooxox 1", "oxoooxxxo 0",
                CLOSED + " 0");
        int[] want = {0, 1, 1, 1, 1, 1, 1, 1, 1, 0, 2, 3};
        for (int card = 0; card < 12; card++) {
            due("class of " + card, z.alike(card, 0), want[card]);
        }
    }

    // "of a CARD how many unlike ways it lies (1, 2, 4 or 8)"
    private static void alikeWays() {
        WindowCards x = game(TABLE, "xxxxxxxxx 0", "ooooooooo 0", "xxxxoxxxx 0", "oxoxxxoxo 0", "oxxxxxxxo 0",
                "xxxoooxxx 0", "ooxxxxxoo 0", "oxxxxxxxx 0", "oooxxxxxx 0", "ooooooxxx 0", "ooxxxxxxx 0",
                "oxxxxoxxx 0");
        int[] want = {1, 1, 1, 1, 2, 2, 4, 4, 4, 4, 8, 8};
        for (int card = 0; card < 12; card++) {
            due("ways of " + card, x.alike(card, 1), want[card]);
        }
    }

    // "what SHOWED ahead of a CARD, and what behind it (0 to 511)"; "BAD"
    private static void fitPlaces() {
        WindowCards x = game(TABLE, OPEN + " 0", CLOSED + " 1");
        int[] wrongPlaces = {-1, 512, 1023, LEAST, MOST};
        for (int places : wrongPlaces) {
            stays(x, "ahead " + places, () -> x.fit(places, 0, -1), BAD);
            stays(x, "behind " + places, () -> x.fit(0, places, -1), BAD);
            stays(x, "ahead " + places + " of 0", () -> x.fit(places, 0, 0), BAD);
            stays(x, "behind " + places + " of 0", () -> x.fit(0, places, 0), BAD);
        }
        int[] wrongCards = {-2, 2, 14, LEAST, MOST};
        for (int card : wrongCards) {
            stays(x, "card " + card, () -> x.fit(0, 0, card), BAD);
        }
        stays(x, "nothing and nothing", () -> x.fit(0, 0, -1), 3);
        stays(x, "all and all", () -> x.fit(511, 511, -1), 1);
        stays(x, "all and nothing", () -> x.fit(511, 0, -1), 2);
        stays(x, "the last card", () -> x.fit(511, 0, 1), 0);
    }

    // "which CARDS (bits) of all can have been laid so, in some WAY .. NONE"
    private static void fitCards() {
        WindowCards x = game(TABLE, times(14, "oxxxxxxxx 0"));
        due("all fourteen", x.fit(511, 4, -1), 16383);
        due("none fits: no bits", x.fit(511, 5, -1), 0);
        due("none fits: no way", x.fit(511, 5, 13), NONE);
        due("more behind than ahead: no bits", x.fit(1, 3, -1), 0);
        due("more behind than ahead: no way", x.fit(1, 3, 0), NONE);
        due("elsewhere: no way", x.fit(1, 4, 0), NONE);
        due("out of nothing: no way", x.fit(0, 1, 0), NONE);
        x.play(5, 0);
        x.play(0, 0);
        due("played ones, too", x.fit(511, 4, -1), 16383);
        due("the heap does not count", x.fit(511, 256, 0), 2);
        WindowCards y = game(TABLE, "oooxxxxxx 1", OPEN + " 0", "xxxoooxxx 1", CLOSED + " 0");
        due("a row of a column", y.fit(1 + 8 + 64, 8, -1), 4);
        due("as it was", y.fit(73, 73, -1), 1 + 2);
        due("a heap shut", y.fit(73, 0, -1), 1 + 4 + 8);
    }

    // "the least WAY of one"
    private static void fitWays() {
        WindowCards x = game(TABLE, "ooxxxxxxx 0", "oxxxxxxxo 0");
        int[] want = {0, 1, 2, 3, 4, 5, 6, 7};
        for (int way : want) {
            due("way " + way, x.fit(511, x.holes(0, way), 0), way);
        }
        due("0 ahead of 2", x.fit(511, 257, 1), 0);
        due("1 ahead of 3", x.fit(511, 68, 1), 1);
        due("a corner: 0 ahead of 7", x.fit(1, 1, 0), 0);
        due("a corner shut", x.fit(1, 0, 0), 1);
        due("an edge", x.fit(8, 8, 0), 3);
        due("an edge, its corner shut", x.fit(9, 8, 0), 3);
        due("an edge with its corner", x.fit(9, 9, 0), 7);
    }

    // "An IMAGE (0, 1)"; "BAD; STATE: no GAME."; "BAD; STATE: none was kept."
    private static void imageNumbers() {
        WindowCards x = game(TABLE, OPEN + " 0");
        int[] wrongNumbers = {-1, 2, LEAST, MOST};
        for (int k : wrongNumbers) {
            stays(x, "image " + k, () -> x.image(k), BAD);
            stays(x, "restore " + k, () -> x.restore(k), BAD);
        }
        for (int k = 0; k < 2; k++) {
            int image = k;
            int other = 1 - k;
            WindowCards y = game(TABLE, OPEN + " 0");
            stays(y, "none kept in " + k, () -> y.restore(image), STATE);
            stays(y, "image " + k, () -> y.image(image), 1);
            stays(y, "none kept in the other", () -> y.restore(other), STATE);
            y.play(0, 0);
            due("restore " + k, y.restore(image), 1);
            due("as kept", y.count(2), 0);
        }
        WindowCards z = new WindowCards();
        z.image(0);
        read(z, TABLE + "card ooooooooo 0;");
        due("no GAME was no image", z.restore(0), STATE);
    }

    // "of the GAME as it is"; "The GAME is as an IMAGE kept it"
    private static void imageKept() {
        WindowCards x = game(TABLE, "oooxxxxxx 0", OPEN + " 1", CLOSED + " 0", "xxxxoxxxx 1");
        String[] kept = new String[5];
        for (int i = 0; i <= 4; i++) {
            kept[i] = nows(x);
            if (i == 2) {
                x.image(0);
            } else if (i == 4) {
                x.image(1);
            }
            x.play(i, 0);
        }
        x.restore(0);
        due("two played", nows(x), kept[2]);
        x.play(2, 0);
        due("and on from there", nows(x), kept[3]);
        x.restore(1);
        due("all played", nows(x), kept[4]);
        x.restore(0);
        due("two played, again", nows(x), kept[2]);
        x.restore(0);
        due("and again", nows(x), kept[2]);
        x.lots(14, 3);
        x.restore(0);
        due("behind lots", nows(x), kept[2]);
        x.image(1);
        x.play(2, 0);
        x.restore(1);
        due("an image of an image", nows(x), kept[2]);
        // Another game: its table, cards and hands come back as well.
        read(x, "table 9 9 9 9 9 9 9 9 9;" + "card xoxxxxxxx 1;".repeat(5));
        x.image(1);
        x.restore(0);
        due("the first game", nows(x), kept[2]);
        due("its table", x.worth(511), 324);
        due("its cards", x.holes(0, 1), 292);
        due("no card 4", x.holes(4, 0), BAD);
        x.restore(1);
        due("the other game", x.count(1), 5);
        due("its table", x.worth(511), 81);
        due("its cards", x.holes(0, 1), 32);
        due("the hand to play", x.now(2), 1);
    }

    // The GAME alone: rows, the tape, the trace, fault() and status() are as they are.
    private static void restoreKeepsTheRest() {
        WindowCards x = game(TABLE, OPEN + " 0", CLOSED + " 1");
        x.image(0);
        read(x, "x");
        x.row(0, 0, 2);
        x.feed(0, 3);
        x.ask(1, 0);
        x.as(1, 1);
        x.restore(0);
        due("fault", x.fault(), 1);
        due("rows", x.count(0), 1);
        due("bytes", x.count(3), 3);
        due("trace", x.trace(0), 14);
        due("status", x.status(), 3);
        x.image(1);
        due("status behind an image", x.status(), 3);
        due("trace behind an image", x.trace(1), 10);
    }
}
