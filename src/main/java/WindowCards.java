import java.util.Arrays;

/**
 * Cards with windows: a game with cards each pierced in some of nine places, laid over one another
 * in turns on a table of nine numbers. The capital words of the comments are those of the document.
 */
public final class WindowCards {
    public static final int NONE = -1000000, BAD = -1000001, STATE = -1000002, FULL = -1000003;

    // FINDINGS are answered as FOUND less their number.
    private static final int FOUND = -1000010;
    private static final int NULL = 1, PLACE = 2, KIND = 3, SIZE = 4, STORE = 5;

    // FAULTS are answered as FAULT_AT less their place.
    private static final int FAULT_AT = -1000100;
    private static final int OUT_OF_PLACE = 1, NOT_AS_TOLD = 2, NO_ROOM = 3;

    private static final int ROWS = 8, LANES = 3, MOST_ITEMS = 40;
    private static final int TAPE_ROOM = 400, WORD_BYTES = 8, MOST_FIGURES = 3;
    private static final int SIDE = 3, PLACES = 9, ALL = 511, MOST_NUMBER = 99;
    private static final int CARD_ROOM = 14, WAYS = 8, TURNS = 4, MOST_PLAYS = 14;
    private static final int MOST_SEED = 999999;
    private static final int IMAGES = 2;

    private static final int OPEN_CARDS = 4, HEAP_CARDS = 3, UNKNOWN = -1000000000;
    private static final int HAND_BIT = 9, LEFT_BITS = 10;

    private static final int CARD = 0, PIERCED = 1, SHUT = 2, EVEN = 3, LACE = 4, ROSE = 5;
    private static final int KINDS = 6, MANY_HOLES = 6;

    // By KIND, the BODY that begins: its own, or that of the nearest KIND that it is, too.
    private static final int[] SIZE_BODIES = {10, 11, 14, 12, 13, 12};
    private static final int[] MARK_BODIES = {20, 21, 23, 21, 24, 22};
    private static final int ASK_SIZE = 0, ASK_MARK = 1;
    private static final int TRACE_ROOM = 16, DEEPEST_BODY = 12;

    private final Row[] rows = new Row[ROWS];
    private final Tape tape = new Tape();
    private final Game game = new Game();
    // What is read, or played on trial, stands here until it is sure that nothing refuses it.
    private final Game trial = new Game();
    private final Game[] images = new Game[IMAGES];
    private final OpenHands openHands = new OpenHands();
    private final int[] heap = new int[HEAP_CARDS];
    private final Trace bodies = new Trace();
    private int latestFault;
    private int latestFinding;

    public WindowCards() {
        for (int i = 0; i < ROWS; i++) {
            rows[i] = new Row();
        }
        for (int k = 0; k < IMAGES; k++) {
            images[k] = new Game();
        }
    }

    // ---- rows

    public int row(int row, int lane, int n) {
        if (!isRow(row) || lane < 0 || lane >= LANES || n > MOST_ITEMS) {
            return BAD;
        }
        if (n < 0) {
            return found(SIZE);
        }
        rows[row].begin(lane, n);
        return passed(n);
    }

    public int set(int row, int i, int v) {
        if (!isRow(row)) {
            return BAD;
        }
        Row to = rows[row];
        if (!to.there) {
            return found(NULL);
        }
        if (!to.holdsRun(i, 1)) {
            return found(PLACE);
        }
        to.items[i] = to.narrowed(v);
        return passed(to.items[i]);
    }

    public int copy(int a, int i, int b, int j, int n) {
        if (!isRow(a) || !isRow(b)) {
            return BAD;
        }
        Row from = rows[a];
        Row to = rows[b];
        if (!from.there || !to.there) {
            return found(NULL);
        }
        if (from.lane != to.lane) {
            return found(STORE);
        }
        if (!from.holdsRun(i, n) || !to.holdsRun(j, n)) {
            return found(PLACE);
        }
        System.arraycopy(from.items, i, to.items, j, n);
        return passed(n);
    }

    public int drop(int row) {
        if (!isRow(row)) {
            return BAD;
        }
        Row old = rows[row];
        if (!old.there) {
            return found(NULL);
        }
        old.there = false;
        return passed(old.length);
    }

    // ---- games, plays

    public int feed(long w, int n) {
        if (n < 1 || n > WORD_BYTES) {
            return BAD;
        }
        if (tape.length > TAPE_ROOM - n) {
            return FULL;
        }
        for (int i = n - 1; i >= 0; i--) {
            tape.append((int) (w >> (8 * i)) & 255);
        }
        return tape.length;
    }

    public int game() {
        int number = readGame(tape, trial);
        int place = tape.start;
        tape.length = 0;
        if (number != 0) {
            latestFault = number;
            return FAULT_AT - place;
        }
        trial.deal();
        game.become(trial);
        return game.cards;
    }

    public int fault() {
        return latestFault;
    }

    public int holes(int card, int way) {
        return isPlay(card, way) ? game.lie(card, way) : BAD;
    }

    public int worth(int places) {
        if (!game.there) {
            return STATE;
        }
        return arePlaces(places) ? game.worthOf(places) : BAD;
    }

    public int play(int card, int way) {
        if (!isPlay(card, way)) {
            return BAD;
        }
        return game.mayLay(card) ? game.lay(card, way) : STATE;
    }

    public int plays(int row, int i, int n) {
        if (!game.there) {
            return STATE;
        }
        if (!isRow(row) || n < 1 || n > MOST_PLAYS) {
            return BAD;
        }
        Row from = rows[row];
        if (!from.there) {
            return found(NULL);
        }
        if (!from.holdsRun(i, n)) {
            return found(PLACE);
        }
        if (!arePlays(from, i, n)) {
            return BAD;
        }
        trial.become(game);
        if (!layAll(trial, from, i, n)) {
            return STATE;
        }
        int ahead = game.got[0] - game.got[1];
        game.become(trial);
        return passed(game.got[0] - game.got[1] - ahead);
    }

    public int lots(int n, int seed) {
        if (!game.there) {
            return STATE;
        }
        if (n < 1 || n > MOST_PLAYS || seed < 1 || seed > MOST_SEED) {
            return BAD;
        }
        long x = seed;
        int played = 0;
        while (played < n && game.playable() != 0) {
            x = x * 16807 % 2147483647;
            layByLot(game, x);
            played++;
        }
        return played;
    }

    public int now(int what) {
        if (!game.there) {
            return STATE;
        }
        switch (what) {
            case 0: return game.shows;
            case 1: return game.lying;
            case 2: return game.turn;
            case 3: return game.got[0];
            case 4: return game.got[1];
            case 5: return game.left[0];
            case 6: return game.left[1];
            case 7: return game.taken;
            default: return BAD;
        }
    }

    // ---- foretold

    public int best(int what) {
        if (!game.there) {
            return STATE;
        }
        if (what < 0 || what > 1) {
            return BAD;
        }
        int left = game.cardsLeft();
        if (left == 0 || left > OPEN_CARDS) {
            return NONE;
        }
        openHands.begin(game);
        int lead = leadFrom(game, openHands, openHands.firstState(game), left);
        return what == 0 ? lead : openHands.firstBest;
    }

    public int mean(int card, int way, int what) {
        if (!isPlay(card, way) || what < 0 || what > 1) {
            return BAD;
        }
        if (!game.mayLay(card)) {
            return STATE;
        }
        int shows = game.shows & game.lie(card, way);
        int worth = game.worthOf(shows);
        int answers = game.waiting();
        int below = WAYS * Integer.bitCount(answers);
        if (below == 0) {
            return what == 0 ? worth : 1;
        }
        int above = worth * below - worthOfAll(game, answers, shows == 0 ? ALL : shows);
        int shared = sharedDivisor(Math.abs(above), below);
        return (what == 0 ? above : below) / shared;
    }

    public int fewest(int places, int k) {
        if (!game.there) {
            return STATE;
        }
        if (!arePlaces(places) || k < -1) {
            return BAD;
        }
        for (int size = 0; size <= HEAP_CARDS; size++) {
            if (findHeap(game, heap, places, ALL, 0, 0, size)) {
                if (k == -1) {
                    return size;
                }
                return k < size && k < heap.length ? heap[k] : NONE;
            }
        }
        return NONE;
    }

    public int triples(int i) {
        if (!game.there) {
            return STATE;
        }
        if (i < -1) {
            return BAD;
        }
        int seen = 0;
        for (int a = 0; a < game.cards; a++) {
            for (int b = a + 1; b < game.cards; b++) {
                for (int c = b + 1; c < game.cards; c++) {
                    if (!canShut(game, a, b, c)) {
                        continue;
                    }
                    if (seen == i) {
                        return 400 * a + 20 * b + c;
                    }
                    seen++;
                }
            }
        }
        return i == -1 ? seen : NONE;
    }

    public int alike(int card, int what) {
        if (!isCard(card) || what < 0 || what > 1) {
            return BAD;
        }
        return what == 0 ? classOf(game, card) : game.unlikeWays(card);
    }

    public int fit(int ahead, int behind, int card) {
        if (!game.there) {
            return STATE;
        }
        if (!arePlaces(ahead) || !arePlaces(behind) || (card != -1 && !isCard(card))) {
            return BAD;
        }
        if (card != -1) {
            return fittingWay(game, ahead, behind, card);
        }
        int fitting = 0;
        for (int c = 0; c < game.cards; c++) {
            if (fittingWay(game, ahead, behind, c) != NONE) {
                fitting |= 1 << c;
            }
        }
        return fitting;
    }

    public int image(int k) {
        if (k < 0 || k >= IMAGES) {
            return BAD;
        }
        if (!game.there) {
            return STATE;
        }
        images[k].become(game);
        return 1;
    }

    public int restore(int k) {
        if (k < 0 || k >= IMAGES) {
            return BAD;
        }
        if (!images[k].there) {
            return STATE;
        }
        game.become(images[k]);
        return 1;
    }

    // ---- asked

    public int kind(int card) {
        return isCard(card) ? kindOf(game, card) : BAD;
    }

    public int as(int card, int kind) {
        if (!isCard(card) || kind < 0 || kind >= KINDS) {
            return BAD;
        }
        return isOfKind(game, card, kind) ? passed(card) : found(KIND);
    }

    public int ask(int card, int what) {
        if (!isCard(card) || (what != ASK_SIZE && what != ASK_MARK)) {
            return BAD;
        }
        bodies.length = 0;
        return body(bodyFor(game, card, what), game, card, bodies, 0);
    }

    public int trace(int i) {
        return i >= 0 && i < bodies.length ? bodies.numbers[i] : NONE;
    }

    public int count(int what) {
        switch (what) {
            case 0: return rowsThere();
            case 1: return game.cards;
            case 2: return game.cards - game.cardsLeft();
            case 3: return tape.length;
            default: return BAD;
        }
    }

    public int status() {
        return latestFinding;
    }

    // ---- refusals and findings

    private int found(int finding) {
        latestFinding = finding;
        return FOUND - finding;
    }

    private int passed(int answer) {
        latestFinding = 0;
        return answer;
    }

    private static boolean isRow(int row) {
        return row >= 0 && row < ROWS;
    }

    private boolean isCard(int card) {
        return card >= 0 && card < game.cards;
    }

    private boolean isPlay(int card, int way) {
        return isCard(card) && way >= 0 && way < WAYS;
    }

    private static boolean arePlaces(int places) {
        return places >= 0 && places <= ALL;
    }

    private boolean arePlays(Row from, int i, int n) {
        for (int k = 0; k < n; k++) {
            int item = from.item(i + k);
            if (item < 0 || item >= WAYS * game.cards) {
                return false;
            }
        }
        return true;
    }

    private int rowsThere() {
        int there = 0;
        for (int i = 0; i < ROWS; i++) {
            if (rows[i].there) {
                there++;
            }
        }
        return there;
    }

    // ---- reading: each answers the FAULT of the TOKEN that stands on the tape then, 0 for none

    private static int readGame(Tape tape, Game into) {
        into.clear();
        tape.rewind();
        int fault = readTable(tape, into);
        // One card more than there is room for is a FAULT, so that the loop ends by it.
        for (int i = 0; fault == 0 && i <= CARD_ROOM; i++) {
            if (i > 0 && tape.token == Tape.END) {
                return 0;
            }
            fault = readCard(tape, into);
        }
        return fault;
    }

    private static int readTable(Tape tape, Game into) {
        if (!tape.isWord("table")) {
            return OUT_OF_PLACE;
        }
        tape.advance();
        for (int place = 0; place < PLACES; place++) {
            int fault = numberFault(tape, MOST_NUMBER);
            if (fault != 0) {
                return fault;
            }
            into.table[place] = tape.value;
            tape.advance();
        }
        return readSign(tape);
    }

    private static int readCard(Tape tape, Game into) {
        if (!tape.isWord("card")) {
            return OUT_OF_PLACE;
        }
        if (into.cards >= CARD_ROOM) {
            return NO_ROOM;
        }
        tape.advance();
        int pierced = tape.windows();
        if (pierced == NONE) {
            return OUT_OF_PLACE;
        }
        tape.advance();
        int fault = numberFault(tape, 1);
        if (fault != 0) {
            return fault;
        }
        into.addCard(pierced, tape.value);
        tape.advance();
        return readSign(tape);
    }

    private static int readSign(Tape tape) {
        if (tape.token != Tape.SIGN) {
            return OUT_OF_PLACE;
        }
        tape.advance();
        return 0;
    }

    private static int numberFault(Tape tape, int most) {
        if (tape.token != Tape.NUMBER) {
            return OUT_OF_PLACE;
        }
        return tape.value > most ? NOT_AS_TOLD : 0;
    }

    // ---- plays

    /** Lays a row of PLAYS; false: one's CARD is not in the HAND that is to play by then. */
    private static boolean layAll(Game on, Row from, int i, int n) {
        for (int k = 0; k < n; k++) {
            int item = from.item(i + k);
            if (!on.mayLay(item / WAYS)) {
                return false;
            }
            on.lay(item / WAYS, item % WAYS);
        }
        return true;
    }

    private static void layByLot(Game on, long x) {
        int cards = Integer.bitCount(on.playable());
        if (cards == 0) {
            return;
        }
        int lot = (int) (x % (WAYS * cards));
        on.lay(bitAt(on.playable(), lot / WAYS), lot % WAYS);
    }

    /** The number of the bit ahead of which there are k others; -1: there are not so many. */
    private static int bitAt(int bits, int k) {
        int ahead = 0;
        for (int bit = 0; bit < CARD_ROOM; bit++) {
            if ((bits >> bit & 1) == 0) {
                continue;
            }
            if (ahead == k) {
                return bit;
            }
            ahead++;
        }
        return -1;
    }

    // ---- foretold

    /** By how much the HAND to play comes to get more; the PLAY for it is left in open.firstBest. */
    private static int leadFrom(Game game, OpenHands open, int state, int depth) {
        if (depth <= 0 || state < 0 || state >= open.leads.length) {
            return 0;
        }
        if (open.leads[state] != UNKNOWN) {
            return open.leads[state];
        }
        int most = UNKNOWN;
        int first = 0;
        int hand = open.handOf(state);
        for (int i = 0; i < open.size; i++) {
            if (!open.holds(state, hand, i)) {
                continue;
            }
            for (int way = 0; way < WAYS; way++) {
                int shows = state & ALL & game.lie(open.cards[i], way);
                int next = open.stateAfter(state, i, shows);
                int further = leadFrom(game, open, next, depth - 1);
                int lead = game.worthOf(shows) + (open.handOf(next) == hand ? further : -further);
                if (lead > most) {
                    most = lead;
                    first = WAYS * open.cards[i] + way;
                }
            }
        }
        most = most == UNKNOWN ? 0 : most;
        open.leads[state] = most;
        // The state that was asked for is the last to be worked out, so that its PLAY stays here.
        open.firstBest = first;
        return most;
    }

    /** The WORTH of all PLAYS of some CARDS (bits), added, each on a heap that shows some places. */
    private static int worthOfAll(Game game, int cards, int shows) {
        int sum = 0;
        for (int card = 0; card < game.cards; card++) {
            if ((cards >> card & 1) == 0) {
                continue;
            }
            for (int way = 0; way < WAYS; way++) {
                sum += game.worthOf(shows & game.lie(card, way));
            }
        }
        return sum;
    }

    /** The greatest number by which both can be divided; a may be 0, b is 1 at least. */
    private static int sharedDivisor(int a, int b) {
        int high = a;
        int low = Math.max(b, 1);
        // The rest is less each time, and ahead of it low is 8 times 14 at most.
        for (int i = 0; i < 1000; i++) {
            int rest = high % low;
            if (rest == 0) {
                return low;
            }
            high = low;
            low = rest;
        }
        return 1;
    }

    /** Finds the first heap of so many CARDS, rising, that shows just the places told. */
    private static boolean findHeap(Game game, int[] heap, int places, int shows, int from,
            int laid, int size) {
        if (laid >= size || laid >= heap.length) {
            return shows == places;
        }
        for (int card = from; card < game.cards; card++) {
            for (int way = 0; way < WAYS; way++) {
                int lie = game.lie(card, way);
                // A card that shuts one of the places shuts it for good.
                if ((lie & places) != places) {
                    continue;
                }
                heap[laid] = WAYS * card + way;
                if (findHeap(game, heap, places, shows & lie, card + 1, laid + 1, size)) {
                    return true;
                }
            }
        }
        return false;
    }

    /** Whether nothing SHOWS of three CARDS in some WAYS. */
    private static boolean canShut(Game game, int a, int b, int c) {
        // Turned and mirrored together they show as much, so the first may rest in WAY 0.
        for (int second = 0; second < WAYS; second++) {
            int shows = game.lie(a, 0) & game.lie(b, second);
            for (int third = 0; third < WAYS; third++) {
                if ((shows & game.lie(c, third)) == 0) {
                    return true;
                }
            }
        }
        return false;
    }

    private static int classOf(Game game, int card) {
        int least = leastAlike(game, card);
        int classes = 0;
        for (int c = 0; c < least; c++) {
            if (leastAlike(game, c) == c) {
                classes++;
            }
        }
        return classes;
    }

    private static int leastAlike(Game game, int card) {
        for (int c = 0; c < card; c++) {
            for (int way = 0; way < WAYS; way++) {
                if (game.lie(c, way) == game.lie(card, 0)) {
                    return c;
                }
            }
        }
        return card;
    }

    private static int fittingWay(Game game, int ahead, int behind, int card) {
        for (int way = 0; way < WAYS; way++) {
            if ((ahead & game.lie(card, way)) == behind) {
                return way;
            }
        }
        return NONE;
    }

    // ---- asked

    private static int kindOf(Game game, int card) {
        if (isOfKind(game, card, SHUT)) {
            return SHUT;
        }
        if (isOfKind(game, card, ROSE)) {
            return ROSE;
        }
        if (isOfKind(game, card, EVEN)) {
            return EVEN;
        }
        return isOfKind(game, card, LACE) ? LACE : PIERCED;
    }

    private static boolean isOfKind(Game game, int card, int kind) {
        int pierced = Integer.bitCount(game.lie(card, 0));
        boolean even = pierced > 0 && game.unlikeWays(card) == 1;
        switch (kind) {
            case CARD: return true;
            case PIERCED: return pierced > 0;
            case SHUT: return pierced == 0;
            case EVEN: return even;
            case LACE: return !even && pierced >= MANY_HOLES;
            case ROSE: return even && pierced >= MANY_HOLES;
            default: return false;
        }
    }

    private static int bodyFor(Game game, int card, int what) {
        int[] told = what == ASK_SIZE ? SIZE_BODIES : MARK_BODIES;
        int kind = kindOf(game, card);
        return kind >= 0 && kind < told.length ? told[kind] : told[0];
    }

    /** What a BODY gives; the deepest run of them is 12, 11, MARK: 22, 21, 20. */
    private static int body(int number, Game game, int card, Trace bodies, int depth) {
        if (depth > DEEPEST_BODY) {
            return 0;
        }
        bodies.leave(number);
        int deeper = depth + 1;
        switch (number) {
            case 10:
                return Integer.bitCount(game.lie(card, 0));
            case 11: {
                int given = body(10, game, card, bodies, deeper);
                return given + body(bodyFor(game, card, ASK_MARK), game, card, bodies, deeper);
            }
            case 12:
                return 2 * body(11, game, card, bodies, deeper);
            case 13:
                return -body(11, game, card, bodies, deeper);
            case 14:
                return body(10, game, card, bodies, deeper) - 100;
            case 20:
                return card;
            case 21:
                return body(20, game, card, bodies, deeper) + game.worthOf(game.lie(card, 0));
            case 22:
                return body(21, game, card, bodies, deeper) - 1000;
            case 23: {
                int given = body(20, game, card, bodies, deeper);
                return given + body(bodyFor(game, card, ASK_SIZE), game, card, bodies, deeper);
            }
            case 24:
                return body(21, game, card, bodies, deeper) + 500;
            default:
                return 0;
        }
    }

    /** A ROW; its items are made once, for all rows that come to stand here. */
    private static final class Row {
        final int[] items = new int[MOST_ITEMS];
        boolean there;
        int lane;
        int length;

        void begin(int newLane, int newLength) {
            there = true;
            lane = newLane;
            length = newLength;
            Arrays.fill(items, 0);
        }

        boolean holdsRun(int from, int n) {
            return from >= 0 && n >= 0 && from <= length - n;
        }

        int item(int i) {
            return i >= 0 && i < length && i < items.length ? items[i] : NONE;
        }

        int narrowed(int v) {
            switch (lane) {
                case 0: return (byte) v;
                case 1: return (short) v;
                default: return v;
            }
        }
    }

    /** THE TAPE, and the TOKEN of it that is looked at. */
    private static final class Tape {
        static final int END = 0, NAME = 1, NUMBER = 2, SIGN = 3, NO_TOKEN = 4;

        final int[] bytes = new int[TAPE_ROOM];
        int length;
        int token;
        int start;
        int end;
        int value;

        void append(int b) {
            if (length < bytes.length) {
                bytes[length] = b;
                length++;
            }
        }

        void rewind() {
            end = 0;
            advance();
        }

        void advance() {
            start = end;
            while (start < length && isBlank(byteAt(start))) {
                start++;
            }
            end = start;
            if (start >= length) {
                token = END;
            } else if (isLetter(byteAt(start))) {
                takeName();
            } else if (isFigure(byteAt(start))) {
                takeNumber();
            } else {
                token = byteAt(start) == ';' ? SIGN : NO_TOKEN;
                end = start + 1;
            }
        }

        boolean isWord(String word) {
            if (token != NAME || end - start != word.length()) {
                return false;
            }
            for (int i = 0; i < word.length(); i++) {
                if (byteAt(start + i) != word.charAt(i)) {
                    return false;
                }
            }
            return true;
        }

        /** HOLES (bits), if the TOKEN tells them; else NONE. */
        int windows() {
            if (token != NAME || end - start != PLACES) {
                return NONE;
            }
            int open = 0;
            for (int place = 0; place < PLACES; place++) {
                int letter = byteAt(start + place);
                if (letter != 'o' && letter != 'x') {
                    return NONE;
                }
                if (letter == 'o') {
                    open |= 1 << place;
                }
            }
            return open;
        }

        private void takeName() {
            token = NAME;
            while (end < length && isLetter(byteAt(end))) {
                end++;
            }
        }

        private void takeNumber() {
            value = 0;
            while (end < length && isFigure(byteAt(end))) {
                if (end - start < MOST_FIGURES) {
                    value = 10 * value + byteAt(end) - '0';
                }
                end++;
            }
            token = end - start <= MOST_FIGURES ? NUMBER : NO_TOKEN;
        }

        private int byteAt(int i) {
            return i >= 0 && i < length && i < bytes.length ? bytes[i] : -1;
        }

        private static boolean isBlank(int b) {
            return b == 32 || b == 10;
        }

        private static boolean isLetter(int b) {
            return b >= 'a' && b <= 'z';
        }

        private static boolean isFigure(int b) {
            return b >= '0' && b <= '9';
        }
    }

    /** A GAME: the table, the cards as they lie in all WAYS, and how far it is played. */
    private static final class Game {
        final int[] table = new int[PLACES];
        final int[] lies = new int[CARD_ROOM * WAYS];
        final int[] left = new int[2];
        final int[] got = new int[2];
        boolean there;
        int cards;
        int shows;
        int lying;
        int turn;
        int taken;

        /** No card yet: a game is going to be read. */
        void clear() {
            cards = 0;
            left[0] = 0;
            left[1] = 0;
        }

        /** A further card of a game that is being read. */
        void addCard(int pierced, int hand) {
            if (cards >= CARD_ROOM || hand < 0 || hand > 1) {
                return;
            }
            int lie = pierced;
            for (int way = 0; way < WAYS; way++) {
                if (way == TURNS) {
                    lie = mirrored(pierced);
                }
                lies[WAYS * cards + way] = lie;
                lie = turned(lie);
            }
            left[hand] |= 1 << cards;
            cards++;
        }

        /** The game begins. */
        void deal() {
            there = true;
            got[0] = 0;
            got[1] = 0;
            shows = ALL;
            lying = 0;
            taken = 0;
            turn = handAfter(1);
        }

        void become(Game other) {
            System.arraycopy(other.table, 0, table, 0, PLACES);
            System.arraycopy(other.lies, 0, lies, 0, CARD_ROOM * WAYS);
            System.arraycopy(other.left, 0, left, 0, 2);
            System.arraycopy(other.got, 0, got, 0, 2);
            there = other.there;
            cards = other.cards;
            shows = other.shows;
            lying = other.lying;
            turn = other.turn;
            taken = other.taken;
        }

        int lie(int card, int way) {
            int at = WAYS * card + way;
            return at >= 0 && at < lies.length ? lies[at] : 0;
        }

        int unlikeWays(int card) {
            int unlike = 0;
            for (int way = 0; way < WAYS; way++) {
                int first = 0;
                while (first < way && lie(card, first) != lie(card, way)) {
                    first++;
                }
                if (first == way) {
                    unlike++;
                }
            }
            return unlike;
        }

        int worthOf(int places) {
            int sum = 0;
            for (int place = 0; place < PLACES; place++) {
                if ((places >> place & 1) == 1) {
                    sum += table[place];
                }
            }
            return sum;
        }

        int cardsLeft() {
            return Integer.bitCount(left[0]) + Integer.bitCount(left[1]);
        }

        /** CARDS (bits) of the HAND that is to play. */
        int playable() {
            return turn == 0 || turn == 1 ? left[turn] : 0;
        }

        /** CARDS (bits) of the HAND that is not to play. */
        int waiting() {
            return turn == 0 || turn == 1 ? left[1 - turn] : 0;
        }

        boolean mayLay(int card) {
            return card >= 0 && card < cards && (playable() >> card & 1) == 1;
        }

        /** A PLAY: what it gets. */
        int lay(int card, int way) {
            if (!mayLay(card)) {
                return 0;
            }
            shows &= lie(card, way);
            lying++;
            left[turn] &= ~(1 << card);
            int gain = worthOf(shows);
            got[turn] += gain;
            if (shows == 0) {
                shows = ALL;
                lying = 0;
                taken++;
            }
            turn = handAfter(turn);
            return gain;
        }

        private int handAfter(int hand) {
            if (hand < 0 || hand > 1) {
                return NONE;
            }
            if (left[1 - hand] != 0) {
                return 1 - hand;
            }
            return left[hand] != 0 ? hand : NONE;
        }

        /** A quarter turn to the right: x, y comes to 2 less y, x. */
        private static int turned(int places) {
            int moved = 0;
            for (int y = 0; y < SIDE; y++) {
                for (int x = 0; x < SIDE; x++) {
                    int from = x + SIDE * y;
                    int to = SIDE - 1 - y + SIDE * x;
                    moved |= (places >> from & 1) << to;
                }
            }
            return moved;
        }

        /** x, y comes to 2 less x, y. */
        private static int mirrored(int places) {
            int moved = 0;
            for (int y = 0; y < SIDE; y++) {
                for (int x = 0; x < SIDE; x++) {
                    int from = x + SIDE * y;
                    int to = SIDE - 1 - x + SIDE * y;
                    moved |= (places >> from & 1) << to;
                }
            }
            return moved;
        }
    }

    /**
     * The last few cards, for BEST. A state is one number: what SHOWS, the HAND to play (bit 9),
     * which of the cards are left (bit 10 and on, by their places here). What a state leads to is
     * kept, as many runs of PLAYS come to the same one.
     */
    private static final class OpenHands {
        final int[] cards = new int[OPEN_CARDS];
        final int[] owned = new int[2];
        final int[] leads = new int[1 << (LEFT_BITS + OPEN_CARDS)];
        int size;
        int firstBest;

        void begin(Game game) {
            size = 0;
            owned[0] = 0;
            owned[1] = 0;
            for (int card = 0; card < game.cards && size < OPEN_CARDS; card++) {
                for (int hand = 0; hand < 2 && size < OPEN_CARDS; hand++) {
                    if ((game.left[hand] >> card & 1) == 1) {
                        owned[hand] |= 1 << size;
                        cards[size] = card;
                        size++;
                    }
                }
            }
            Arrays.fill(leads, UNKNOWN);
        }

        int firstState(Game game) {
            return stateOf((1 << size) - 1, game.turn == 1 ? 1 : 0, game.shows);
        }

        int stateAfter(int state, int i, int shows) {
            int left = (state >> LEFT_BITS) & ~(1 << i);
            int hand = handOf(state);
            int next = (left & owned[1 - hand]) != 0 ? 1 - hand : hand;
            return stateOf(left, next, shows == 0 ? ALL : shows);
        }

        boolean holds(int state, int hand, int i) {
            return ((state >> LEFT_BITS) & owned[hand] & 1 << i) != 0;
        }

        int handOf(int state) {
            return state >> HAND_BIT & 1;
        }

        private static int stateOf(int left, int hand, int shows) {
            return left << LEFT_BITS | hand << HAND_BIT | shows;
        }
    }

    /** THE TRACE: the numbers that BODIES leave. */
    private static final class Trace {
        final int[] numbers = new int[TRACE_ROOM];
        int length;

        void leave(int number) {
            if (length < numbers.length) {
                numbers[length] = number;
                length++;
            }
        }
    }
}
