/**
 * Promises 23 to 26 and 28 (as), with KINDS and ASKS, sentence by sentence: both sides of each bound, the
 * empty TRACE, what a refused call leaves as it was.
 */
public final class AskEdgesTest {
    private static final int NONE = WindowCards.NONE, BAD = WindowCards.BAD, KIND = -1000013;
    private static final int LEAST = Integer.MIN_VALUE, MOST = Integer.MAX_VALUE;
    private static final String TABLE = "table 1 2 4 8 16 32 64 98 99;";
    private static final int[] WORTHS = {1, 2, 4, 8, 16, 32, 64, 98, 99};
    private static int wrong = 0;

    private static void due(String call, Object got, Object want) {
        if (!got.equals(want)) {
            wrong++;
            System.out.println(call + ": " + got + ", due is " + want);
        }
    }

    public static void main(String[] args) {
        noGame();
        everyCard();
        holesCounted();
        cardsOfTheGame();
        kindsTold();
        takenAs();
        bodies();
        askedAnew();
        traceEnds();
        traceStays();
        if (wrong != 0) {
            System.exit(1);
        }
    }

    private static WindowCards game(String... cards) {
        WindowCards x = new WindowCards();
        StringBuilder text = new StringBuilder(TABLE);
        for (String card : cards) {
            text.append("card ").append(card).append(" 0;");
        }
        for (int i = 0; i < text.length(); i++) {
            x.feed(text.charAt(i), 1);
        }
        due("cards", x.game(), cards.length);
        return x;
    }

    private static String traced(WindowCards x) {
        StringBuilder told = new StringBuilder();
        for (int i = 0; i < 16 && x.trace(i) != NONE; i++) {
            told.append(x.trace(i)).append(' ');
        }
        return told.toString().trim();
    }

    // Without a GAME there is no CARD: BAD; "THE TRACE" is empty
    private static void noGame() {
        WindowCards x = new WindowCards();
        int[] numbers = {LEAST, -1, 0, 1, 5, 13, 14, 15, 16, MOST};
        for (int n : numbers) {
            due("kind " + n, x.kind(n), BAD);
            due("as " + n, x.as(n, 0), BAD);
            due("as 0, " + n, x.as(0, n), BAD);
            due("ask " + n, x.ask(n, 0), BAD);
            due("ask 0, " + n, x.ask(0, n), BAD);
            due("trace " + n, x.trace(n), NONE);
        }
        due("status", x.status(), 0);
    }

    // Each card that there can be, by a second telling of KINDS and BODIES
    private static void everyCard() {
        for (int first = 0; first < 512; first += 14) {
            String[] cards = new String[Math.min(14, 512 - first)];
            for (int i = 0; i < cards.length; i++) {
                StringBuilder card = new StringBuilder();
                for (int place = 0; place < 9; place++) {
                    card.append((first + i >> place & 1) == 1 ? 'o' : 'x');
                }
                cards[i] = card.toString();
            }
            WindowCards x = game(cards);
            for (int i = 0; i < cards.length; i++) {
                oneCard(x, i, first + i, cards[i]);
            }
        }
    }

    private static void oneCard(WindowCards x, int card, int holes, String told) {
        int pierced = Integer.bitCount(holes);
        boolean even = pierced > 0 && told.matches("(.)(.)\\1\\2.\\2\\1\\2\\1");
        boolean lace = pierced >= 6 && !even;
        boolean rose = pierced >= 6 && even;
        int kind = pierced == 0 ? 2 : rose ? 5 : even ? 3 : lace ? 4 : 1;
        due("kind of " + told, x.kind(card), kind);
        boolean[] is = {true, pierced > 0, pierced == 0, even, lace, rose};
        for (int k = 0; k < 6; k++) {
            due(told + " as " + k, x.as(card, k), is[k] ? card : KIND);
            due("status of " + told + " as " + k, x.status(), is[k] ? 0 : 3);
        }
        int worth = 0;
        for (int place = 0; place < 9; place++) {
            worth += told.charAt(place) == 'o' ? WORTHS[place] : 0;
        }
        int mark = card + worth - (rose ? 1000 : 0) + (lace ? 500 : 0) + (pierced == 0 ? -100 : 0);
        int size = pierced == 0 ? -100 : (pierced + mark) * (even ? 2 : lace ? -1 : 1);
        String marks = rose ? "22 21 20" : lace ? "24 21 20" : pierced == 0 ? "23 20 14 10" : "21 20";
        String sizes = pierced == 0 ? "14 10" : (even ? "12 " : lace ? "13 " : "") + "11 10 " + marks;
        due("SIZE of " + told, x.ask(card, 0), size);
        due("trace of it", traced(x), sizes);
        due("MARK of " + told, x.ask(card, 1), mark);
        due("trace of that", traced(x), marks);
    }

    // "6 holes and more": 5 and 6; "lies one way alone"
    private static void holesCounted() {
        WindowCards x = game("oooooxxxx", "ooooooxxx", "ooooooooo", "oooooooox", "xoxoooxox", "oxoxoxoxo", "ooooxoooo",
                "oxoxxxoxo", "xxxxoxxxx", "oxxxoxxxo", "oooxxxooo", "oooxoxooo", "xxxxxxxxx");
        int[] want = {1, 4, 5, 4, 3, 3, 5, 3, 3, 1, 4, 4, 2};
        for (int card = 0; card < want.length; card++) {
            due("kind of " + card, x.kind(card), want[card]);
        }
    }

    // "BAD" of kind, as, ask: CARD, KIND (0 .. 5), ASK (0, 1)
    private static void cardsOfTheGame() {
        WindowCards x = game("ooooooooo", "xxxxxxxxx");
        int[] wrongCards = {-1, 2, 13, 14, LEAST, MOST, MOST / 8 + 1};
        for (int card : wrongCards) {
            due("kind " + card, x.kind(card), BAD);
            due("as " + card, x.as(card, 0), BAD);
            due("ask " + card, x.ask(card, 0), BAD);
            due("ask " + card + ", 1", x.ask(card, 1), BAD);
        }
        int[] wrongKinds = {-1, 6, 7, LEAST, MOST};
        for (int kind : wrongKinds) {
            due("as 0, " + kind, x.as(0, kind), BAD);
            due("as 2, " + kind, x.as(2, kind), BAD);
        }
        int[] wrongAsks = {-1, 2, 10, 20, LEAST, MOST};
        for (int what : wrongAsks) {
            due("ask 0, " + what, x.ask(0, what), BAD);
        }
        due("the last card", x.kind(1), 2);
        due("the last card as SHUT", x.as(1, 2), 1);
        due("the last card's SIZE", x.ask(1, 0), -100);
        x.play(0, 0);
        due("a played one's kind", x.kind(0), 5);
        due("a played one as ROSE", x.as(0, 5), 0);
        due("a played one's MARK", x.ask(0, 1), 324 - 1000);
        String[] all = new String[14];
        java.util.Arrays.fill(all, "oxxxxxxxx");
        WindowCards y = game(all);
        due("card 13", y.kind(13), 1);
        due("card 13's MARK", y.ask(13, 1), 14);
        due("card 14", y.kind(14), BAD);
    }

    // "It is told as SHUT, ROSE, EVEN, LACE, PIERCED, the first that fits"
    private static void kindsTold() {
        WindowCards x = game("xxxxxxxxx", "ooooooooo", "xxxxoxxxx", "xoooooooo", "oxxxxxxxx");
        int[] want = {2, 5, 3, 4, 1};
        for (int card = 0; card < 5; card++) {
            due("told as", x.kind(card), want[card]);
        }
    }

    // "A CARD is taken as one of a KIND: the CARD's number. BAD; KIND: it is no such one."; status()
    private static void takenAs() {
        WindowCards x = game("xxxxxxxxx", "ooooooooo", "xxxxoxxxx");
        due("status", x.status(), 0);
        due("no PIERCED one", x.as(0, 1), KIND);
        due("status", x.status(), 3);
        due("BAD leaves status", x.as(3, 1), BAD);
        due("BAD leaves status, too", x.as(0, 6), BAD);
        due("status", x.status(), 3);
        due("a CARD", x.as(0, 0), 0);
        due("status", x.status(), 0);
        due("BAD", x.as(-1, -1), BAD);
        due("status", x.status(), 0);
        due("an EVEN one, no ROSE", x.as(2, 5), KIND);
        due("an EVEN one", x.as(2, 3), 2);
        due("status", x.status(), 0);
        due("the kind is as ever", x.kind(2), 3);
    }

    // "the BODY told for the KIND begins, else that of the nearest KIND that it is, too, else the one lent"
    private static void bodies() {
        WindowCards x = game("oxxxxxxxx", "xxxxoxxxx", "ooooxoooo", "ooooooxxx", "xxxxxxxxx");
        int[] sizes = {1 + 0 + 1, 2 * (1 + 1 + 16), 2 * (8 + 2 + 308 - 1000), -(6 + 3 + 63 + 500), 0 - 100};
        int[] marks = {0 + 1, 1 + 16, 2 + 308 - 1000, 3 + 63 + 500, 4 + 0 - 100};
        String[] sizeTraces = {"11 10 21 20", "12 11 10 21 20", "12 11 10 22 21 20", "13 11 10 24 21 20", "14 10"};
        String[] markTraces = {"21 20", "21 20", "22 21 20", "24 21 20", "23 20 14 10"};
        for (int card = 0; card < 5; card++) {
            due("SIZE of " + card, x.ask(card, 0), sizes[card]);
            due("its trace", traced(x), sizeTraces[card]);
            due("MARK of " + card, x.ask(card, 1), marks[card]);
            due("its trace", traced(x), markTraces[card]);
        }
    }

    // Nothing that was played or asked ahead counts
    private static void askedAnew() {
        WindowCards x = game("oxxxxxxxx", "xxxxoxxxx");
        x.ask(1, 0);
        x.play(0, 2);
        due("a card turned is asked as it was told", x.ask(0, 1), 1);
        due("its SIZE", x.ask(0, 0), 2);
        due("and again", x.ask(0, 0), 2);
        due("the trace is not added to", traced(x), "11 10 21 20");
    }

    // "Number i of THE TRACE; NONE."; "(the first 16)"
    private static void traceEnds() {
        WindowCards x = game("ooooooooo", "xxxxxxxxx");
        due("empty at first", traced(x), "");
        x.ask(0, 0);
        int[] beyond = {6, 7, 15, 16, 17, MOST, -1, LEAST};
        for (int i : beyond) {
            due("trace " + i, x.trace(i), NONE);
        }
        due("the first", x.trace(0), 12);
        due("the last", x.trace(5), 20);
        x.ask(1, 0);
        due("a shorter one behind it", traced(x), "14 10");
        due("its end", x.trace(2), NONE);
    }

    // "THE TRACE is empty ahead of it (where that is refused it stays)."
    private static void traceStays() {
        WindowCards x = game("ooooooooo", "xxxxxxxxx");
        x.ask(0, 0);
        x.ask(2, 0);
        x.ask(-1, 1);
        x.ask(1, 2);
        x.ask(1, -1);
        due("stays where that is refused", traced(x), "12 11 10 22 21 20");
        x.kind(1);
        x.as(1, 1);
        x.play(0, 0);
        x.image(0);
        x.restore(0);
        x.feed(59, 1);
        x.game();
        x.row(0, 0, 1);
        x.count(0);
        x.trace(0);
        due("stays behind other calls", traced(x), "12 11 10 22 21 20");
        due("ask leaves status", x.status(), 0);
        x.as(1, 1);
        x.ask(1, 1);
        due("and a finding's, too", x.status(), 3);
        due("another", traced(x), "23 20 14 10");
    }
}
