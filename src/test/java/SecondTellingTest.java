import java.lang.reflect.Array;
import java.math.BigInteger;
import java.nio.charset.StandardCharsets;
import java.util.ArrayList;
import java.util.Arrays;
import java.util.HashSet;
import java.util.List;
import java.util.Set;
import java.util.TreeSet;
import java.util.regex.Matcher;
import java.util.regex.Pattern;

/**
 * Rows of calls of every name, drawn by a fixed row of numbers, against a second telling of the whole
 * document that leans on the Java library: real arrays and their exceptions for the ROWS, a regular
 * expression for the TOKENS, the list of PLAYS for a heap, a tree of classes for the KINDS.
 */
public final class SecondTellingTest {
    private static final int NONE = -1000000, BAD = -1000001, STATE = -1000002, FULL = -1000003;
    private static final int CALLS = 512, MOST_AT_ONCE = 7, RUNS = 120;
    private static final int[] WILD = {Integer.MIN_VALUE, -1000001, -257, -129, -2, -1, 0, 1, 2, 7, 8, 9, 13, 14,
        15, 39, 40, 41, 127, 128, 255, 256, 511, 512, 32767, 32768, 65535, 65536, 999999, 1000000, Integer.MAX_VALUE};
    private static final String[] ODDS = {"table", "card", "cards", "tabl", "oxoxoxoxo", "ooooooooo", "xxxxxxxxx",
        "oxoxoxoxox", "oxoxoxox", "oxoxoxoxa", ";", ";;", "0", "1", "2", "7", "99", "100", "099", "0000", "1000",
        "12345", "A", "\n", "\t", " ", "-", "\u00ff", "\u0000", "01", "001", "0001"};
    private static long drawn = 20261119;
    private static int wrong = 0;

    private final WindowCards x = new WindowCards();
    private final Telling told = new Telling();
    private final List<String> calls = new ArrayList<>();
    private String toFeed = "";

    private static int draw(int n) {
        drawn = drawn * 48271 % 2147483647;
        return (int) (drawn / 11 % n);
    }

    public static void main(String[] args) {
        for (int run = 0; run < RUNS && wrong == 0; run++) {
            SecondTellingTest one = new SecondTellingTest();
            while (one.calls.size() <= CALLS - MOST_AT_ONCE && wrong == 0) {
                one.call(run % 4);
            }
        }
        if (wrong != 0) {
            System.exit(1);
        }
    }

    private void due(String call, int answer, int want) {
        calls.add(call + " -> " + answer);
        if (answer != want) {
            wrong++;
            System.out.println(call + " answered " + answer + ", due is " + want + ", behind:");
            System.out.println(String.join("\n", calls));
        }
    }

    private static int wild() {
        return WILD[draw(WILD.length)];
    }

    private static int near(int n) {
        return draw(9) == 0 ? wild() : draw(n + 2) - 1;
    }

    private int card() {
        return draw(12) == 0 ? wild() : draw(Math.max(told.cards(), 1) + (draw(5) == 0 ? 1 : 0));
    }

    private int heldCard() {
        List<Integer> held = told.game == null ? List.of() : new ArrayList<>(told.game.toPlayHas());
        return held.isEmpty() || draw(6) == 0 ? card() : held.get(draw(held.size()));
    }

    private static int way() {
        return draw(12) == 0 ? wild() : draw(8);
    }

    private static int places() {
        return draw(14) == 0 ? wild() : draw(6) == 0 ? 0 : draw(512);
    }

    private void call(int style) {
        if (!toFeed.isEmpty()) {
            feedSome();
            return;
        }
        int most = style == 0 ? 12 : 44;
        int from = style == 1 && draw(3) != 0 ? 12 : 0;
        callOf(from + draw(most - from));
    }

    private void feedSome() {
        int n = Math.min(toFeed.length(), 1 + draw(8));
        long w = draw(1000000) * 1000003L;
        for (byte b : toFeed.substring(0, n).getBytes(StandardCharsets.ISO_8859_1)) {
            w = w << 8 | b & 255;
        }
        toFeed = toFeed.substring(n);
        due("feed(" + w + ", " + n + ")", x.feed(w, n), told.feed(w, n));
        if (toFeed.isEmpty() && draw(2) == 0) {
            due("game()", x.game(), told.game());
        }
    }

    private void callOf(int which) {
        if (which < 12) {
            rowCall(which);
        } else if (which < 26) {
            playCall(which);
        } else {
            foretoldOrAsked(which);
        }
    }

    private void rowCall(int which) {
        int a = near(8);
        int i = near(6);
        int b = draw(3) == 0 ? a : near(8);
        int j = near(6);
        int n = draw(3) == 0 ? draw(42) : near(8);
        switch (which) {
            case 0, 1, 2 -> {
                int lane = near(3);
                due("row(" + a + ", " + lane + ", " + n + ")", x.row(a, lane, n), told.row(a, lane, n));
            }
            case 3, 4 -> {
                int v = draw(2) == 0 ? wild() : draw(120);
                due("set(" + a + ", " + i + ", " + v + ")", x.set(a, i, v), told.set(a, i, v));
            }
            case 5, 6, 7 -> due("copy(" + a + ", " + i + ", " + b + ", " + j + ", " + n + ")", x.copy(a, i, b, j, n),
                    told.copy(a, i, b, j, n));
            case 8 -> due("drop(" + a + ")", x.drop(a), told.drop(a));
            case 9 -> due("count(0)", x.count(0), told.count(0));
            case 10 -> due("status()", x.status(), told.latestFinding);
            default -> {
                int what = near(4);
                due("count(" + what + ")", x.count(what), told.count(what));
            }
        }
    }

    private void playCall(int which) {
        int card = heldCard();
        int way = way();
        switch (which) {
            case 12 -> readOne();
            case 13 -> due("fault()", x.fault(), told.latestFault);
            case 14 -> due("holes(" + card + ", " + way + ")", x.holes(card, way), told.holes(card, way));
            case 15 -> {
                int places = places();
                due("worth(" + places + ")", x.worth(places), told.worth(places));
            }
            case 16, 17, 18 -> due("play(" + card + ", " + way + ")", x.play(card, way), told.play(card, way));
            case 19 -> playRow();
            case 20 -> {
                int n = draw(6) == 0 ? wild() : 1 + draw(3);
                int seed = draw(6) == 0 ? wild() : 1 + draw(999999);
                due("lots(" + n + ", " + seed + ")", x.lots(n, seed), told.lots(n, seed));
            }
            case 21 -> {
                int k = draw(9) == 0 ? wild() : draw(2);
                due("image(" + k + ")", x.image(k), told.image(k));
            }
            case 22 -> {
                int k = draw(9) == 0 ? wild() : draw(2);
                due("restore(" + k + ")", x.restore(k), told.restore(k));
            }
            default -> {
                int what = near(8);
                due("now(" + what + ")", x.now(what), told.now(what));
            }
        }
    }

    /** Sets some ITEMS to PLAYS, most of them lawful, and plays them. */
    private void playRow() {
        int row = draw(8);
        int from = draw(4);
        int n = 1 + draw(5);
        if (draw(4) != 0) {
            due("row(" + row + ", 2, 9)", x.row(row, 2, 9), told.row(row, 2, 9));
            List<Integer> plays = told.lawfulPlays(n);
            for (int k = 0; k < n; k++) {
                int item = k < plays.size() && draw(20) != 0 ? plays.get(k) : draw(9) == 0 ? wild() : 8 * card() + way();
                due("set(" + row + ", " + (from + k) + ", " + item + ")", x.set(row, from + k, item),
                        told.set(row, from + k, item));
            }
        }
        int asked = draw(7) == 0 ? near(15) : n;
        due("plays(" + row + ", " + from + ", " + asked + ")", x.plays(row, from, asked), told.plays(row, from, asked));
    }

    private void readOne() {
        due("game()", x.game(), told.game());
        toFeed = text();
    }

    private static String text() {
        List<String> tokens = new ArrayList<>(List.of("table"));
        int most = 1 + draw(99);
        for (int i = 0; i < 9; i++) {
            tokens.add(String.valueOf(draw(most + 1)));
        }
        tokens.add(";");
        int cards = draw(4) == 0 ? 13 + draw(3) : 1 + draw(6);
        int open = 1 + draw(9);
        for (int c = 0; c < cards; c++) {
            tokens.addAll(List.of("card", holes(open), String.valueOf(draw(2)), ";"));
        }
        for (int odd = draw(3) == 0 ? 1 : 0; odd > 0; odd--) {
            int at = draw(tokens.size());
            switch (draw(3)) {
                case 0 -> tokens.remove(at);
                case 1 -> tokens.add(at, ODDS[draw(ODDS.length)]);
                default -> tokens.set(at, ODDS[draw(ODDS.length)]);
            }
        }
        return joined(tokens);
    }

    private static String holes(int open) {
        String[] evenOnes = {"xoxoooxox", "ooooxoooo", "oxoxoxoxo", "oxoxxxoxo", "xxxxoxxxx", "ooooooooo", "xxxxxxxxx"};
        if (draw(3) == 0) {
            return evenOnes[draw(evenOnes.length)];
        }
        StringBuilder card = new StringBuilder();
        for (int place = 0; place < 9; place++) {
            card.append(draw(10) < open ? 'o' : 'x');
        }
        return card.toString();
    }

    private static String joined(List<String> tokens) {
        StringBuilder text = new StringBuilder();
        boolean tight = draw(2) == 0;
        for (String token : tokens) {
            boolean word = !text.isEmpty() && Character.isLetterOrDigit(text.charAt(text.length() - 1))
                    && Character.isLetterOrDigit(token.charAt(0));
            boolean alike = word && Character.isDigit(token.charAt(0)) == Character.isDigit(text.charAt(text.length() - 1));
            if (alike && draw(60) != 0 || !tight && draw(3) != 0) {
                text.append(draw(4) == 0 ? "\n" : draw(9) == 0 ? "  " : " ");
            }
            text.append(token);
        }
        return text.append(draw(3) == 0 ? " \n" : "").append(" ".repeat(draw(20) == 0 ? draw(400) : 0)).toString();
    }

    private void foretoldOrAsked(int which) {
        int card = heldCard();
        int what = draw(12) == 0 ? wild() : draw(2);
        switch (which) {
            case 26, 27 -> due("best(" + what + ")", x.best(what), told.best(what));
            case 28, 29 -> {
                int way = way();
                due("mean(" + card + ", " + way + ", " + what + ")", x.mean(card, way, what), told.mean(card, way, what));
            }
            case 30, 31 -> {
                int places = draw(2) == 0 ? told.someShown(draw(512), 1 + draw(3)) : places();
                int k = near(4);
                due("fewest(" + places + ", " + k + ")", x.fewest(places, k), told.fewest(places, k));
            }
            case 32 -> {
                int i = draw(3) == 0 ? near(12) : draw(2) == 0 ? -1 : draw(370);
                due("triples(" + i + ")", x.triples(i), told.triples(i));
            }
            case 33 -> due("alike(" + card + ", " + what + ")", x.alike(card, what), told.alike(card, what));
            case 34, 35 -> {
                int ahead = places();
                int behind = draw(2) == 0 ? ahead & told.someShown(draw(512), 1) : places();
                int of = draw(2) == 0 ? -1 : card();
                due("fit(" + ahead + ", " + behind + ", " + of + ")", x.fit(ahead, behind, of), told.fit(ahead, behind, of));
            }
            case 36 -> due("kind(" + card + ")", x.kind(card), told.kind(card));
            case 37 -> {
                int kind = near(6);
                due("as(" + card + ", " + kind + ")", x.as(card, kind), told.as(card, kind));
            }
            case 38, 39 -> due("ask(" + card + ", " + what + ")", x.ask(card, what), told.ask(card, what));
            case 40, 41 -> {
                int i = near(8);
                due("trace(" + i + ")", x.trace(i), told.trace(i));
            }
            case 42 -> due("status()", x.status(), told.latestFinding);
            default -> due("count(2)", x.count(2), told.count(2));
        }
    }

    /** A CARD as an object of the KIND that is told for it. */
    private static class Card {
        final int number;
        final String letters;
        final Played of;

        Card(int number, String letters, Played of) {
            this.number = number;
            this.letters = letters;
            this.of = of;
        }

        int size(List<Integer> trace) {
            trace.add(10);
            return letters.replace("x", "").length();
        }

        int mark(List<Integer> trace) {
            trace.add(20);
            return number;
        }
    }

    private static class Pierced extends Card {
        Pierced(int number, String letters, Played of) {
            super(number, letters, of);
        }

        @Override
        int size(List<Integer> trace) {
            trace.add(11);
            int given = super.size(trace);
            return given + mark(trace);
        }

        @Override
        int mark(List<Integer> trace) {
            trace.add(21);
            return super.mark(trace) + of.worth(of.lie(8 * number));
        }
    }

    private static class Even extends Pierced {
        Even(int number, String letters, Played of) {
            super(number, letters, of);
        }

        @Override
        int size(List<Integer> trace) {
            trace.add(12);
            return 2 * super.size(trace);
        }
    }

    private static final class Rose extends Even {
        Rose(int number, String letters, Played of) {
            super(number, letters, of);
        }

        @Override
        int mark(List<Integer> trace) {
            trace.add(22);
            return super.mark(trace) - 1000;
        }
    }

    private static final class Lace extends Pierced {
        Lace(int number, String letters, Played of) {
            super(number, letters, of);
        }

        @Override
        int size(List<Integer> trace) {
            trace.add(13);
            return 0 - super.size(trace);
        }

        @Override
        int mark(List<Integer> trace) {
            trace.add(24);
            return super.mark(trace) + 500;
        }
    }

    private static final class Shut extends Card {
        Shut(int number, String letters, Played of) {
            super(number, letters, of);
        }

        @Override
        int size(List<Integer> trace) {
            trace.add(14);
            return super.size(trace) - 100;
        }

        @Override
        int mark(List<Integer> trace) {
            trace.add(23);
            int given = super.mark(trace);
            return given + size(trace);
        }
    }

    /** A GAME as the row of all that was laid since it was read. */
    private static final class Played {
        final int[] table = new int[9];
        final List<String> cards = new ArrayList<>();
        final List<Integer> hands = new ArrayList<>();
        final List<Integer> laid = new ArrayList<>();

        Played copy() {
            Played other = new Played();
            System.arraycopy(table, 0, other.table, 0, 9);
            other.cards.addAll(cards);
            other.hands.addAll(hands);
            other.laid.addAll(laid);
            return other;
        }

        Played with(int play) {
            Played other = copy();
            other.laid.add(play);
            return other;
        }

        Set<Integer> lie(int play) {
            Set<Integer> lie = new TreeSet<>();
            for (int place = 0; place < 9; place++) {
                if (cards.get(play / 8).charAt(place) != 'o') {
                    continue;
                }
                int x = place % 3;
                int y = place / 3;
                if (play % 8 >= 4) {
                    x = 2 - x;
                }
                for (int turn = 0; turn < play % 4; turn++) {
                    int right = 2 - y;
                    y = x;
                    x = right;
                }
                lie.add(x + 3 * y);
            }
            return lie;
        }

        Set<Integer> through(List<Integer> plays) {
            Set<Integer> shows = new TreeSet<>(List.of(0, 1, 2, 3, 4, 5, 6, 7, 8));
            for (int play : plays) {
                shows.retainAll(lie(play));
            }
            return shows;
        }

        int worth(Set<Integer> places) {
            return places.stream().mapToInt(place -> table[place]).sum();
        }

        /** All that the document's now() tells, worked out from the first PLAY on. */
        int[] now() {
            List<Integer> heap = new ArrayList<>();
            int[] got = new int[2];
            List<Set<Integer>> left = List.of(new TreeSet<>(), new TreeSet<>());
            for (int card = 0; card < cards.size(); card++) {
                left.get(hands.get(card)).add(card);
            }
            int turn = left.get(0).isEmpty() ? 1 : 0;
            int taken = 0;
            for (int play : laid) {
                heap.add(play);
                Set<Integer> shows = through(heap);
                got[turn] += worth(shows);
                if (!left.get(turn).remove(play / 8)) {
                    throw new IllegalStateException("no such play");
                }
                if (shows.isEmpty()) {
                    heap.clear();
                    taken++;
                }
                turn = left.get(1 - turn).isEmpty() ? turn : 1 - turn;
            }
            boolean over = left.get(0).isEmpty() && left.get(1).isEmpty();
            return new int[] {bits(through(heap)), heap.size(), over ? NONE : turn, got[0], got[1], bits(left.get(0)),
                bits(left.get(1)), taken};
        }

        Set<Integer> toPlayHas() {
            int[] now = now();
            return now[2] == NONE ? Set.of() : numbers(now[5 + now[2]]);
        }

        Set<Integer> othersHas() {
            int[] now = now();
            return now[2] == NONE ? Set.of() : numbers(now[6 - now[2]]);
        }

        int gains(int play) {
            int turn = now()[2];
            return with(play).now()[3 + turn] - now()[3 + turn];
        }

        Card object(int card) {
            String letters = cards.get(card);
            Set<Set<Integer>> lies = new HashSet<>();
            for (int way = 0; way < 8; way++) {
                lies.add(lie(8 * card + way));
            }
            int holes = letters.replace("x", "").length();
            if (holes == 0) {
                return new Shut(card, letters, this);
            }
            if (lies.size() == 1) {
                return holes >= 6 ? new Rose(card, letters, this) : new Even(card, letters, this);
            }
            return holes >= 6 ? new Lace(card, letters, this) : new Pierced(card, letters, this);
        }
    }

    private static int bits(Set<Integer> numbers) {
        return numbers.stream().mapToInt(number -> 1 << number).sum();
    }

    private static Set<Integer> numbers(int bits) {
        Set<Integer> all = new TreeSet<>();
        for (int i = 0; i < 31; i++) {
            if ((bits >> i & 1) == 1) {
                all.add(i);
            }
        }
        return all;
    }

    /** The document told a second time, call by call. */
    private static final class Telling {
        private static final Pattern TOKEN = Pattern.compile("[a-z]+|[0-9]+|[^ \n]", Pattern.DOTALL);
        private static final Class<?>[] KINDS = {Card.class, Pierced.class, Shut.class, Even.class, Lace.class, Rose.class};
        private static final Class<?>[] LANES = {byte.class, short.class, int.class};

        final Object[] rows = new Object[8];
        final Played[] images = new Played[2];
        Played game;
        String tape = "";
        int latestFault;
        int latestFinding;
        List<Integer> trace = new ArrayList<>();

        private boolean within(int n, int least, int most) {
            return n >= least && n <= most;
        }

        private boolean isCard(int card) {
            return within(card, 0, cards() - 1);
        }

        int cards() {
            return game == null ? 0 : game.cards.size();
        }

        private int found(int finding) {
            latestFinding = finding;
            return -1000010 - finding;
        }

        private int fine(int answer) {
            latestFinding = 0;
            return answer;
        }

        int row(int row, int lane, int n) {
            if (!within(row, 0, 7) || !within(lane, 0, 2) || n > 40) {
                return BAD;
            }
            try {
                rows[row] = Array.newInstance(LANES[lane], n);
                return fine(n);
            } catch (NegativeArraySizeException e) {
                return found(4);
            }
        }

        int set(int row, int i, int v) {
            if (!within(row, 0, 7)) {
                return BAD;
            }
            try {
                Object to = rows[row];
                if (to instanceof byte[] bytes) {
                    return fine(bytes[i] = (byte) v);
                } else if (to instanceof short[] shorts) {
                    return fine(shorts[i] = (short) v);
                }
                return fine(((int[]) to)[i] = v);
            } catch (NullPointerException e) {
                return found(1);
            } catch (ArrayIndexOutOfBoundsException e) {
                return found(2);
            }
        }

        int copy(int a, int i, int b, int j, int n) {
            if (!within(a, 0, 7) || !within(b, 0, 7)) {
                return BAD;
            }
            try {
                System.arraycopy(rows[a], i, rows[b], j, n);
                return fine(n);
            } catch (NullPointerException e) {
                return found(1);
            } catch (ArrayStoreException e) {
                return found(5);
            } catch (IndexOutOfBoundsException e) {
                return found(2);
            }
        }

        int drop(int row) {
            if (!within(row, 0, 7)) {
                return BAD;
            }
            if (rows[row] == null) {
                return found(1);
            }
            int had = Array.getLength(rows[row]);
            rows[row] = null;
            return fine(had);
        }

        int feed(long w, int n) {
            if (!within(n, 1, 8)) {
                return BAD;
            }
            if (tape.length() + n > 400) {
                return FULL;
            }
            byte[] all = BigInteger.valueOf(w).add(BigInteger.ONE.shiftLeft(70)).toByteArray();
            tape += new String(Arrays.copyOfRange(all, all.length - n, all.length), StandardCharsets.ISO_8859_1);
            return tape.length();
        }

        int game() {
            String text = tape;
            tape = "";
            Played read = new Played();
            Matcher token = TOKEN.matcher(text);
            for (int i = 0; ; i++) {
                boolean end = !token.find();
                boolean mayEnd = i >= 15 && (i - 11) % 4 == 0;
                if (end && mayEnd) {
                    game = read;
                    return read.cards.size();
                }
                int fault = end ? 1 : fault(read, token.group(), i);
                if (fault != 0) {
                    latestFault = fault;
                    return -1000100 - (end ? text.length() : token.start());
                }
            }
        }

        private int fault(Played read, String token, int i) {
            int part = i < 11 ? -1 : (i - 11) % 4;
            if (i == 0) {
                return token.equals("table") ? 0 : 1;
            }
            if (i == 10 || part == 3) {
                return token.equals(";") ? 0 : 1;
            }
            if (part == 0) {
                return !token.equals("card") ? 1 : read.cards.size() == 14 ? 3 : 0;
            }
            if (part == 1) {
                read.cards.add(token);
                return token.matches("[ox]{9}") ? 0 : 1;
            }
            if (!token.matches("[0-9]{1,3}")) {
                return 1;
            }
            int number = Integer.parseInt(token);
            if (part == 2) {
                read.hands.add(number);
                return number <= 1 ? 0 : 2;
            }
            read.table[i - 1] = number;
            return number <= 99 ? 0 : 2;
        }

        int holes(int card, int way) {
            return isCard(card) && within(way, 0, 7) ? bits(game.lie(8 * card + way)) : BAD;
        }

        int worth(int places) {
            return game == null ? STATE : within(places, 0, 511) ? game.worth(numbers(places)) : BAD;
        }

        int play(int card, int way) {
            if (!isCard(card) || !within(way, 0, 7)) {
                return BAD;
            }
            if (!game.toPlayHas().contains(card)) {
                return STATE;
            }
            int gains = game.gains(8 * card + way);
            game = game.with(8 * card + way);
            return gains;
        }

        List<Integer> lawfulPlays(int n) {
            List<Integer> plays = new ArrayList<>();
            Played on = game;
            while (on != null && plays.size() < n && !on.toPlayHas().isEmpty()) {
                List<Integer> held = new ArrayList<>(on.toPlayHas());
                plays.add(8 * held.get(draw(held.size())) + draw(8));
                on = on.with(plays.get(plays.size() - 1));
            }
            return plays;
        }

        int plays(int row, int i, int n) {
            if (game == null) {
                return STATE;
            }
            if (!within(row, 0, 7) || !within(n, 1, 14)) {
                return BAD;
            }
            if (rows[row] == null) {
                return found(1);
            }
            if (i < 0 || (long) i + n > Array.getLength(rows[row])) {
                return found(2);
            }
            for (int k = 0; k < n; k++) {
                if (!within(Array.getInt(rows[row], i + k), 0, 8 * cards() - 1)) {
                    return BAD;
                }
            }
            Played on = game;
            for (int k = 0; k < n; k++) {
                int item = Array.getInt(rows[row], i + k);
                if (!on.toPlayHas().contains(item / 8)) {
                    return STATE;
                }
                on = on.with(item);
            }
            int[] ahead = game.now();
            int[] behind = on.now();
            game = on;
            return fine(behind[3] - ahead[3] - (behind[4] - ahead[4]));
        }

        int lots(int n, int seed) {
            if (game == null) {
                return STATE;
            }
            if (!within(n, 1, 14) || !within(seed, 1, 999999)) {
                return BAD;
            }
            BigInteger lot = BigInteger.valueOf(seed);
            int played = 0;
            while (played < n && !game.toPlayHas().isEmpty()) {
                lot = lot.multiply(BigInteger.valueOf(16807)).mod(BigInteger.valueOf(2147483647));
                List<Integer> all = allPlays(game.toPlayHas());
                game = game.with(all.get(lot.mod(BigInteger.valueOf(all.size())).intValue()));
                played++;
            }
            return played;
        }

        private List<Integer> allPlays(Set<Integer> cards) {
            List<Integer> plays = new ArrayList<>();
            for (int card : cards) {
                for (int way = 0; way < 8; way++) {
                    plays.add(8 * card + way);
                }
            }
            return plays;
        }

        int now(int what) {
            return game == null ? STATE : within(what, 0, 7) ? game.now()[what] : BAD;
        }

        int best(int what) {
            if (game == null) {
                return STATE;
            }
            if (!within(what, 0, 1)) {
                return BAD;
            }
            int[] now = game.now();
            int left = Integer.bitCount(now[5]) + Integer.bitCount(now[6]);
            if (left < 1 || left > 4) {
                return NONE;
            }
            return lead(now[2], now[0], numbers(now[5]), numbers(now[6]))[what];
        }

        /** What HAND comes to get more, and its first PLAY for it. */
        private int[] lead(int hand, int shows, Set<Integer> left0, Set<Integer> left1) {
            int[] best = {0, -1};
            Set<Integer> tried = new HashSet<>();
            for (int play : allPlays(hand == 0 ? left0 : left1)) {
                int lie = bits(game.lie(play));
                if (!tried.add(play / 8 * 512 + lie)) {
                    continue;
                }
                Set<Integer> next0 = new TreeSet<>(left0);
                Set<Integer> next1 = new TreeSet<>(left1);
                (hand == 0 ? next0 : next1).remove(play / 8);
                boolean other = !(hand == 0 ? next1 : next0).isEmpty();
                int now = shows & lie;
                int[] further = lead(other ? 1 - hand : hand, now == 0 ? 511 : now, next0, next1);
                int lead = game.worth(numbers(now)) + (other ? -further[0] : further[0]);
                if (best[1] == -1 || lead > best[0]) {
                    best = new int[] {lead, play};
                }
            }
            return best;
        }

        int mean(int card, int way, int what) {
            if (!isCard(card) || !within(way, 0, 7) || !within(what, 0, 1)) {
                return BAD;
            }
            if (!game.toPlayHas().contains(card)) {
                return STATE;
            }
            int play = 8 * card + way;
            Played then = game.with(play);
            List<Integer> answers = allPlays(game.othersHas());
            BigInteger below = BigInteger.valueOf(Math.max(answers.size(), 1));
            BigInteger above = BigInteger.valueOf(game.gains(play)).multiply(below);
            for (int answer : answers) {
                above = above.subtract(BigInteger.valueOf(then.gains(answer)));
            }
            BigInteger shared = above.gcd(below);
            return (what == 0 ? above : below).divide(shared).intValue();
        }

        int someShown(int choice, int n) {
            List<Integer> heap = new ArrayList<>();
            for (int i = 0; i < n && cards() > 0; i++) {
                heap.add((choice + 37 * i) % (8 * cards()));
            }
            return cards() == 0 ? choice : bits(game.through(heap));
        }

        int fewest(int places, int k) {
            if (game == null) {
                return STATE;
            }
            if (!within(places, 0, 511) || k < -1) {
                return BAD;
            }
            int[] lies = new int[8 * cards()];
            for (int play = 0; play < lies.length; play++) {
                lies[play] = bits(game.lie(play));
            }
            List<List<Integer>> heaps = List.of(List.of());
            for (int size = 0; size <= 3; size++) {
                List<List<Integer>> longer = new ArrayList<>();
                for (List<Integer> heap : heaps) {
                    int shows = heap.stream().mapToInt(play -> lies[play]).reduce(511, (a, b) -> a & b);
                    if (shows == places) {
                        return k == -1 ? size : k < heap.size() ? heap.get(k) : NONE;
                    }
                    int from = heap.isEmpty() ? 0 : heap.get(heap.size() - 1) / 8 + 1;
                    for (int play = 8 * from; size < 3 && play < lies.length; play++) {
                        List<Integer> more = new ArrayList<>(heap);
                        more.add(play);
                        longer.add(more);
                    }
                }
                heaps = longer;
            }
            return NONE;
        }

        int triples(int i) {
            if (game == null) {
                return STATE;
            }
            if (i < -1) {
                return BAD;
            }
            List<Integer> all = new ArrayList<>();
            for (int set = 0; set < cards() * cards() * cards(); set++) {
                int a = set / cards() / cards();
                int b = set / cards() % cards();
                int c = set % cards();
                if (a < b && b < c && shuts(a, b, c)) {
                    all.add(400 * a + 20 * b + c);
                }
            }
            return i == -1 ? all.size() : i < all.size() ? all.get(i) : NONE;
        }

        private boolean shuts(int a, int b, int c) {
            for (int ways = 0; ways < 512; ways++) {
                if ((holes(a, ways / 64) & holes(b, ways / 8 % 8) & holes(c, ways % 8)) == 0) {
                    return true;
                }
            }
            return false;
        }

        int alike(int card, int what) {
            if (!isCard(card) || !within(what, 0, 1)) {
                return BAD;
            }
            List<Set<Set<Integer>>> classes = new ArrayList<>();
            for (int c = 0; c <= card; c++) {
                Set<Set<Integer>> lies = new HashSet<>();
                for (int play : allPlays(Set.of(c))) {
                    lies.add(game.lie(play));
                }
                if (c == card && what == 1) {
                    return lies.size();
                }
                if (!classes.contains(lies)) {
                    classes.add(lies);
                }
                if (c == card) {
                    return classes.indexOf(lies);
                }
            }
            return BAD;
        }

        int fit(int ahead, int behind, int card) {
            if (game == null) {
                return STATE;
            }
            if (!within(ahead, 0, 511) || !within(behind, 0, 511) || card != -1 && !isCard(card)) {
                return BAD;
            }
            Set<Integer> fitting = new TreeSet<>();
            for (int play = 8 * cards() - 1; play >= 0; play--) {
                Set<Integer> shows = numbers(ahead);
                shows.retainAll(game.lie(play));
                if (shows.equals(numbers(behind))) {
                    fitting.add(play);
                }
            }
            if (card == -1) {
                return bits(new TreeSet<>(fitting.stream().map(play -> play / 8).toList()));
            }
            return fitting.stream().filter(play -> play / 8 == card).mapToInt(play -> play % 8).findFirst().orElse(NONE);
        }

        int image(int k) {
            if (!within(k, 0, 1)) {
                return BAD;
            }
            if (game == null) {
                return STATE;
            }
            images[k] = game.copy();
            return 1;
        }

        int restore(int k) {
            if (!within(k, 0, 1)) {
                return BAD;
            }
            if (images[k] == null) {
                return STATE;
            }
            game = images[k].copy();
            return 1;
        }

        int kind(int card) {
            return isCard(card) ? Arrays.asList(KINDS).indexOf(game.object(card).getClass()) : BAD;
        }

        int as(int card, int kind) {
            if (!isCard(card) || !within(kind, 0, 5)) {
                return BAD;
            }
            try {
                KINDS[kind].cast(game.object(card));
                return fine(card);
            } catch (ClassCastException e) {
                return found(3);
            }
        }

        int ask(int card, int what) {
            if (!isCard(card) || !within(what, 0, 1)) {
                return BAD;
            }
            trace = new ArrayList<>();
            Card asked = game.object(card);
            return what == 0 ? asked.size(trace) : asked.mark(trace);
        }

        int trace(int i) {
            return within(i, 0, Math.min(trace.size(), 16) - 1) ? trace.get(i) : NONE;
        }

        int count(int what) {
            return switch (what) {
                case 0 -> (int) Arrays.stream(rows).filter(row -> row != null).count();
                case 1 -> cards();
                case 2 -> game == null ? 0 : game.laid.size();
                case 3 -> tape.length();
                default -> BAD;
            };
        }
    }
}
