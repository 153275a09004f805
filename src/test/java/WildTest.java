import java.util.Arrays;

/**
 * Calls with wild numbers in a fixed order: none throws, and what is refused or found changes nothing
 * but status(), which itself is left by all but the calls with a ROW and as().
 */
public final class WildTest {
    private static final int[] WILD = {Integer.MIN_VALUE, -1000001, -3, -2, -1, 0, 0, 1, 1, 2, 3, 4, 5, 6, 7, 8, 9,
        13, 14, 15, 16, 39, 40, 41, 511, 512, 999999, 1000000, Integer.MAX_VALUE};
    private static final String[] TEXTS = {"table 5 0 2 0 9 0 3 0 1;", "card oxxxxxxxx 0;", "card ooxooxxxo 1;",
        "card ooooooooo 1;", "card xxxxxxxxx 0;", "card xoxoooxox 0;", ";", "100 ", "table"};
    private static int wrong = 0;
    private static long drawn = 4711;

    private static int draw(int n) {
        drawn = drawn * 48271 % 2147483647;
        return (int) (drawn / 7 % n);
    }

    private static int wild() {
        return WILD[draw(WILD.length)];
    }

    private static int small() {
        return draw(8) == 0 ? wild() : draw(6);
    }

    public static void main(String[] args) {
        for (int run = 0; run < 400; run++) {
            WindowCards x = new WindowCards();
            for (int i = 0; i < 500; i++) {
                one(x, draw(28));
            }
        }
        if (wrong != 0) {
            System.exit(1);
        }
    }

    private static void one(WindowCards x, int call) {
        int[] before = state(x);
        int status = x.status();
        int answer = called(x, call);
        boolean refused = answer <= WindowCards.BAD && answer >= WindowCards.FULL;
        boolean found = answer <= -1000011 && answer >= -1000015;
        if ((refused || found) && !Arrays.equals(before, state(x))) {
            wrong++;
            System.out.println("call " + call + " answered " + answer + " and changed something");
        }
        boolean mayTell = call <= 3 || call == 10 || call == 23;
        int want = !mayTell || refused ? status : found ? -1000010 - answer : 0;
        if (x.status() != want) {
            wrong++;
            System.out.println("call " + call + " answered " + answer + ", status " + x.status() + ", due " + want);
        }
    }

    private static int[] state(WindowCards x) {
        int[] state = new int[32];
        for (int i = 0; i < 8; i++) {
            state[i] = x.now(i);
        }
        for (int i = 0; i < 4; i++) {
            state[8 + i] = x.count(i);
        }
        state[12] = x.fault();
        state[13] = x.worth(511);
        for (int i = 0; i < 16; i++) {
            state[16 + i] = x.trace(i);
        }
        return state;
    }

    private static int called(WindowCards x, int call) {
        int a = small();
        int b = small();
        int c = small();
        switch (call) {
            case 0: return x.row(a, draw(4), draw(3) == 0 ? wild() : draw(41));
            case 1: return x.set(a, b, draw(60));
            case 2: return x.copy(a, b, c, small(), small());
            case 3: return x.drop(a);
            case 4: return draw(4) == 0 ? readGood(x) : x.feed(drawn, draw(9));
            case 5: return readOdds(x);
            case 6: return x.fault();
            case 7: return x.holes(a, b);
            case 8: return x.worth(wild());
            case 9: return x.play(a, b);
            case 10: return x.plays(a, b, c);
            case 11: return x.lots(b, wild());
            case 12: return x.now(wild());
            case 13: return x.best(b);
            case 14: return x.mean(a, b, c);
            case 15: return x.fewest(wild(), b);
            case 16: return x.triples(wild());
            case 17: return x.alike(a, b);
            case 18: return x.fit(wild(), wild(), a);
            case 19: return x.image(a);
            case 20: return x.restore(a);
            case 21: return x.kind(a);
            case 22: return x.trace(wild());
            case 23: return x.as(a, b);
            case 24: return x.ask(a, b);
            case 25: return x.trace(a);
            case 26: return x.count(wild());
            default: return x.status();
        }
    }

    /** Feeds odds and ends, which may be read; a FAULT empties the tape, so it is no refusal here. */
    private static int readOdds(WindowCards x) {
        String text = draw(3) == 0 ? TEXTS[draw(TEXTS.length)] : TEXTS[0] + TEXTS[1 + draw(5)] + TEXTS[1 + draw(5)];
        for (int i = 0; i < text.length() - 1; i++) {
            x.feed(text.charAt(i), 1);
        }
        if (draw(3) == 0) {
            x.feed(drawn, small());
        } else {
            x.game();
        }
        return 0;
    }

    private static int readGood(WindowCards x) {
        x.game();
        String text = TEXTS[0] + TEXTS[1 + draw(5)] + TEXTS[1 + draw(5)] + TEXTS[1 + draw(5)] + TEXTS[1 + draw(5)];
        for (int i = 0; i < text.length(); i++) {
            x.feed(text.charAt(i), 1);
        }
        return x.game();
    }
}
