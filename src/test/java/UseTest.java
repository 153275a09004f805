/**
 * "An object is used for at most 512 calls": each call answers its 512th time as it did at first, the
 * dearest ones with as many CARDS as there can be.
 */
public final class UseTest {
    private static final int CALLS = 512;
    private static int wrong = 0;

    private static void due(String call, long got, long want) {
        if (got != want) {
            wrong++;
            System.out.println(call + " answered " + got + ", due is " + want);
        }
    }

    public static void main(String[] args) {
        for (int call = 0; call < 27; call++) {
            again(call);
        }
        fedToTheEnd();
        if (wrong != 0) {
            System.exit(1);
        }
    }

    /** 14 cards that lie in eight unlike ways, fed in 33 calls and read in another. */
    private static WindowCards made() {
        StringBuilder text = new StringBuilder("table 99 98 97 96 95 94 93 92 91;");
        for (int card = 0; card < 14; card++) {
            text.append("card ").append(card % 2 == 0 ? "oooooxoox " : "xooooooox ").append(card % 3 % 2).append(';');
        }
        WindowCards x = new WindowCards();
        int calls = 0;
        for (int from = 0; from < text.length(); from += 8) {
            int to = Math.min(from + 8, text.length());
            long w = 0;
            for (int i = from; i < to; i++) {
                w = w << 8 | text.charAt(i);
            }
            x.feed(w, to - from);
            calls++;
        }
        due("calls to feed all", calls, 34);
        due("game", x.game(), 14);
        return x;
    }

    private static void again(int call) {
        WindowCards x = made();
        int ahead = 35;
        if (call == 0 || call == 1) {
            x.lots(10, 77);
            ahead++;
        } else if (call >= 20) {
            x.row(1, 2, 40);
            x.image(1);
            ahead += 2;
        }
        int first = called(x, call);
        for (int i = ahead + 1; i < CALLS; i++) {
            due("call " + call + ", the " + (i + 1) + "-th", called(x, call), first);
        }
    }

    private static int called(WindowCards x, int call) {
        switch (call) {
            case 0: return x.best(0);
            case 1: return x.best(1);
            case 2: return x.fewest(2, -1);
            case 3: return x.fewest(0, 2);
            case 4: return x.fewest(511, -1);
            case 5: return x.triples(-1);
            case 6: return x.triples(363);
            case 7: return x.mean(0, 7, 0);
            case 8: return x.mean(0, 7, 1);
            case 9: return x.alike(13, 0);
            case 10: return x.alike(13, 1);
            case 11: return x.fit(511, 0, -1);
            case 12: return x.fit(511, 0, 13);
            case 13: return x.kind(13);
            case 14: return x.ask(13, 0);
            case 15: return x.ask(13, 1);
            case 16: return x.holes(13, 7);
            case 17: return x.worth(511);
            case 18: return x.now(6);
            case 19: return x.game();
            case 20: return x.restore(1);
            case 21: return x.image(0);
            case 22: return x.row(7, 2, 40);
            case 23: return x.set(1, 39, -1);
            case 24: return x.copy(1, 0, 1, 1, 39);
            case 25: return x.as(13, 4);
            default: return x.plays(1, 0, 2);
        }
    }

    /** Fed by every call there is: FULL behind 400 bytes, and still so at the end. */
    private static void fedToTheEnd() {
        WindowCards x = new WindowCards();
        for (int i = 1; i < CALLS; i++) {
            due("feed " + i, x.feed(-1L, 1), i <= 400 ? i : WindowCards.FULL);
        }
        due("the 512th call", x.game(), -1000100);
    }
}
