import java.util.ArrayList;
import java.util.List;
import java.util.TreeSet;

/**
 * Games made by a fixed row of numbers, played to the end; what the class answers is held against a
 * second, slow telling of the document that keeps cards as texts and tries everything.
 */
public final class OracleTest {
    private static final int NONE = WindowCards.NONE, STATE = WindowCards.STATE;
    private static int wrong = 0;
    private static long drawn = 20261118;

    private final List<String> cards = new ArrayList<>();
    private final int[] table = new int[9];
    private final WindowCards x = new WindowCards();
    private String shows = "ooooooooo";
    private int lying;
    private int taken;
    private int turn;
    private final int[] got = new int[2];
    private final List<TreeSet<Integer>> hands = List.of(new TreeSet<>(), new TreeSet<>());

    private static int draw(int n) {
        drawn = drawn * 48271 % 2147483647;
        return (int) (drawn / 7 % n);
    }

    private void due(String call, long answer, long want) {
        if (answer != want) {
            wrong++;
            System.out.println(call + " answered " + answer + ", due is " + want + ", cards " + cards);
        }
    }

    public static void main(String[] args) {
        for (int run = 0; run < 120; run++) {
            new OracleTest().runOne(1 + run % 14, run % 5);
        }
        if (wrong != 0) {
            System.exit(1);
        }
    }

    private void runOne(int number, int style) {
        begin(number, style);
        deck();
        for (int i = 0; i < number; i++) {
            state();
            foretold();
            int play = drawPlay();
            int hand = turn;
            int before = got[hand];
            lay(play);
            due("play " + play, x.play(play / 8, play % 8), got[hand] - before);
        }
        state();
        foretold();
    }

    private void begin(int number, int style) {
        StringBuilder text = new StringBuilder("table");
        for (int i = 0; i < 9; i++) {
            table[i] = style == 0 ? draw(3) : draw(100);
            text.append(' ').append(table[i]);
        }
        text.append(';');
        for (int i = 0; i < number; i++) {
            StringBuilder card = new StringBuilder();
            for (int place = 0; place < 9; place++) {
                card.append(draw(10) < 2 + 2 * style ? 'o' : 'x');
            }
            String drawnCard = style == 4 && draw(3) == 0 ? card.charAt(0) + "ooooooo" + card.charAt(1)
                    : i > 0 && draw(4) == 0 ? way(cards.get(draw(i)), draw(8)) : card.toString();
            cards.add(drawnCard);
            int hand = draw(2);
            hands.get(hand).add(i);
            text.append("card ").append(drawnCard).append(' ').append(hand).append(";\n");
        }
        for (int i = 0; i < text.length(); i++) {
            x.feed(text.charAt(i), 1);
        }
        due("game", x.game(), number);
        turn = hands.get(0).isEmpty() ? 1 : 0;
    }

    private static String way(String card, int way) {
        String lie = card;
        if (way >= 4) {
            lie = "" + lie.charAt(2) + lie.charAt(1) + lie.charAt(0) + lie.charAt(5) + lie.charAt(4)
                    + lie.charAt(3) + lie.charAt(8) + lie.charAt(7) + lie.charAt(6);
        }
        for (int i = 0; i < way % 4; i++) {
            lie = "" + lie.charAt(6) + lie.charAt(3) + lie.charAt(0) + lie.charAt(7) + lie.charAt(4)
                    + lie.charAt(1) + lie.charAt(8) + lie.charAt(5) + lie.charAt(2);
        }
        return lie;
    }

    private String lie(int play) {
        return way(cards.get(play / 8), play % 8);
    }

    private static String through(String a, String b) {
        StringBuilder both = new StringBuilder();
        for (int i = 0; i < 9; i++) {
            both.append(a.charAt(i) == 'o' && b.charAt(i) == 'o' ? 'o' : 'x');
        }
        return both.toString();
    }

    private static int bits(String holes) {
        int bits = 0;
        for (int i = 0; i < 9; i++) {
            bits += holes.charAt(i) == 'o' ? 1 << i : 0;
        }
        return bits;
    }

    private static int bits(TreeSet<Integer> cards) {
        int bits = 0;
        for (int card : cards) {
            bits += 1 << card;
        }
        return bits;
    }

    private static String holes(int bits) {
        StringBuilder holes = new StringBuilder();
        for (int i = 0; i < 9; i++) {
            holes.append((bits >> i & 1) == 1 ? 'o' : 'x');
        }
        return holes.toString();
    }

    private int worth(String holes) {
        int sum = 0;
        for (int i = 0; i < 9; i++) {
            sum += holes.charAt(i) == 'o' ? table[i] : 0;
        }
        return sum;
    }

    private static String behind(String shows) {
        return shows.equals("xxxxxxxxx") ? "ooooooooo" : shows;
    }

    private int drawPlay() {
        List<Integer> hand = new ArrayList<>(hands.get(turn));
        return 8 * hand.get(draw(hand.size())) + draw(8);
    }

    private void lay(int play) {
        shows = through(shows, lie(play));
        lying++;
        got[turn] += worth(shows);
        hands.get(turn).remove(play / 8);
        if (shows.equals("xxxxxxxxx")) {
            taken++;
            lying = 0;
            shows = "ooooooooo";
        }
        if (!hands.get(1 - turn).isEmpty()) {
            turn = 1 - turn;
        }
    }

    private void state() {
        boolean over = hands.get(0).isEmpty() && hands.get(1).isEmpty();
        int[] want = {bits(shows), lying, over ? NONE : turn, got[0], got[1], bits(hands.get(0)),
            bits(hands.get(1)), taken};
        for (int what = 0; what < 8; what++) {
            due("now " + what, x.now(what), want[what]);
        }
        due("count 2", x.count(2), cards.size() - hands.get(0).size() - hands.get(1).size());
    }

    private void foretold() {
        best();
        for (int i = 0; i < 3; i++) {
            int card = draw(cards.size());
            mean(8 * card + draw(8));
        }
        fit(draw(512), draw(512));
        int ahead = draw(512);
        fit(ahead, bits(through(holes(ahead), lie(draw(8 * cards.size())))));
        fit(511, bits(lie(draw(8 * cards.size()))));
    }

    private void best() {
        int left = hands.get(0).size() + hands.get(1).size();
        if (left == 0 || left > 4) {
            due("best 0", x.best(0), NONE);
            due("best 1", x.best(1), NONE);
            return;
        }
        int most = Integer.MIN_VALUE;
        int first = -1;
        for (int play = 0; play < 8 * cards.size(); play++) {
            if (hands.get(turn).contains(play / 8)) {
                int lead = leadBy(play, turn, shows);
                if (lead > most) {
                    most = lead;
                    first = play;
                }
            }
        }
        due("best 0", x.best(0), most);
        due("best 1", x.best(1), first);
    }

    private int leadBy(int play, int hand, String under) {
        String now = through(under, lie(play));
        int next = hands.get(1 - hand).isEmpty() ? hand : 1 - hand;
        hands.get(hand).remove(play / 8);
        if (hands.get(next).isEmpty()) {
            next = hand;
        }
        int most = Integer.MIN_VALUE;
        for (int card : new ArrayList<>(hands.get(next))) {
            TreeSet<String> seen = new TreeSet<>();
            for (int way = 0; way < 8; way++) {
                if (seen.add(lie(8 * card + way))) {
                    most = Math.max(most, leadBy(8 * card + way, next, behind(now)));
                }
            }
        }
        hands.get(hand).add(play / 8);
        int further = most == Integer.MIN_VALUE ? 0 : next == hand ? most : -most;
        return worth(now) + further;
    }

    private void mean(int play) {
        if (!hands.get(turn).contains(play / 8)) {
            due("mean", x.mean(play / 8, play % 8, 0), STATE);
            return;
        }
        String now = through(shows, lie(play));
        int sum = 0;
        int n = 0;
        for (int card : hands.get(1 - turn)) {
            for (int way = 0; way < 8; way++) {
                sum += worth(through(behind(now), lie(8 * card + way)));
                n++;
            }
        }
        int below = Math.max(n, 1);
        int above = worth(now) * below - sum;
        for (int by = below; by > 1; by--) {
            if (above % by == 0 && below % by == 0) {
                above /= by;
                below /= by;
            }
        }
        due("mean above " + play, x.mean(play / 8, play % 8, 0), above);
        due("mean below " + play, x.mean(play / 8, play % 8, 1), below);
    }

    private void fit(int ahead, int behind) {
        int fitting = 0;
        for (int card = 0; card < cards.size(); card++) {
            int least = NONE;
            for (int way = 7; way >= 0; way--) {
                if (bits(through(holes(ahead), lie(8 * card + way))) == behind) {
                    least = way;
                }
            }
            fitting += least == NONE ? 0 : 1 << card;
            due("fit " + ahead + ", " + behind + ", " + card, x.fit(ahead, behind, card), least);
        }
        due("fit " + ahead + ", " + behind, x.fit(ahead, behind, -1), fitting);
    }

    private void deck() {
        List<String> classes = new ArrayList<>();
        for (int card = 0; card < cards.size(); card++) {
            TreeSet<String> lies = new TreeSet<>();
            for (int way = 0; way < 8; way++) {
                lies.add(lie(8 * card + way));
                due("holes", x.holes(card, way), bits(lie(8 * card + way)));
            }
            if (!classes.contains(lies.toString())) {
                classes.add(lies.toString());
            }
            due("class of " + card, x.alike(card, 0), classes.indexOf(lies.toString()));
            due("ways of " + card, x.alike(card, 1), lies.size());
        }
        triples();
        for (int i = 0; i < 6; i++) {
            String shown = i == 0 ? "xxxxxxxxx" : i == 1 ? "ooooooooo" : lie(draw(8 * cards.size()));
            for (int k = 2; k < i; k++) {
                shown = through(shown, lie(draw(8 * cards.size())));
            }
            fewest(shown);
        }
    }

    private void triples() {
        int seen = 0;
        for (int a = 0; a < cards.size(); a++) {
            for (int b = a + 1; b < cards.size(); b++) {
                for (int c = b + 1; c < cards.size(); c++) {
                    if (shuts(a, b, c)) {
                        due("triple " + seen, x.triples(seen), 400 * a + 20 * b + c);
                        seen++;
                    }
                }
            }
        }
        due("triples", x.triples(-1), seen);
        due("no more triples", x.triples(seen), NONE);
    }

    private boolean shuts(int a, int b, int c) {
        for (int ways = 0; ways < 512; ways++) {
            String two = through(lie(8 * a + ways / 64), lie(8 * b + ways / 8 % 8));
            if (through(two, lie(8 * c + ways % 8)).equals("xxxxxxxxx")) {
                return true;
            }
        }
        return false;
    }

    private void fewest(String shown) {
        List<Integer> heap = null;
        for (int size = 0; size <= 3 && heap == null; size++) {
            heap = heapOf(shown, "ooooooooo", 0, size);
        }
        due("fewest " + shown, x.fewest(bits(shown), -1), heap == null ? NONE : heap.size());
        for (int k = 0; k < 4; k++) {
            int want = heap == null || k >= heap.size() ? NONE : heap.get(k);
            due("fewest " + shown + ", " + k, x.fewest(bits(shown), k), want);
        }
    }

    private List<Integer> heapOf(String shown, String under, int from, int size) {
        if (size == 0) {
            return under.equals(shown) ? new ArrayList<>() : null;
        }
        for (int play = 8 * from; play < 8 * cards.size(); play++) {
            List<Integer> rest = heapOf(shown, through(under, lie(play)), play / 8 + 1, size - 1);
            if (rest != null) {
                rest.add(0, play);
                return rest;
            }
        }
        return null;
    }
}
