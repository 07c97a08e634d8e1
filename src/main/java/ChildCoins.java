/** A land where a debt is paid in the money that was about when the creditor was seven. */
public final class ChildCoins {
    public static final int BAD = -1, STATE = -2, FULL = -3, NONE = -9;
    public static final int NO = -1000000;

    private static final int MAX_COINS = 6, MAX_PEOPLE = 5, MAX_DEBTS = 5;
    private static final int MAX_YEAR = 60, MAX_WORTH = 9, MAX_TOLD = 9, MAX_SUM = 60;
    private static final int MAX_SPAN = 20, FIRST_SPAN = 9, CHILD_AGE = 7;
    private static final int MAX_HELD = 99, MAX_UNDO = 10, MAX_TOOK = 6, MAX_TEXT = 180;
    private static final int IMAGES = 2, KINDS = 6, PARTS = 10;

    private final int[] text = new int[MAX_TEXT];
    private int typed = 0;
    private final Reader reader = new Reader();
    private Land ours = new Land();
    private Land draft = new Land();
    private final Now present = new Now();
    private final Now[] images = {new Now(), new Now()};
    private int keptImages = 0;
    private final Payment payment = new Payment();
    private final World world = new World();
    private final Rows rows = new Rows();
    private final int[] taken = new int[MAX_TOOK];
    private int takenCount = 0;
    private long traced = 0;

    public ChildCoins() {
    }

    // ---- the land

    public int type(int c) {
        if (c < 0 || c > 255) return BAD;
        if (typed >= MAX_TEXT) return FULL;
        text[typed] = c;
        typed++;
        return typed;
    }

    public int clear() {
        int had = typed;
        typed = 0;
        return had;
    }

    public int land() {
        int items = reader.read(text, typed, draft);
        if (items < 0) return items;
        Land old = ours;
        ours = draft;
        draft = old;
        present.begin(ours);
        keptImages = 0;
        takenCount = 0;
        typed = 0;
        return items;
    }

    public int coin(int c, int what) {
        if (!ours.hasCoin(c)) return BAD;
        switch (what) {
            case 0: return ours.struck[c];
            case 1: return ours.worth[c];
            case 2: return ours.peopleFor(c);
            case 3: return present.inAll(c);
            default: return BAD;
        }
    }

    public int person(int p, int what) {
        if (!ours.hasPerson(p)) return BAD;
        switch (what) {
            case 0: return ours.born[p];
            case 1: return ours.coinsFor(p);
            case 2: return wealth(p);
            case 3: return ease(p);
            default: return BAD;
        }
    }

    public int holds(int p, int c) {
        if (!ours.hasPerson(p) || !ours.hasCoin(c)) return BAD;
        return present.held(p, c);
    }

    public int debt(int d, int what) {
        if (!ours.hasDebt(d)) return BAD;
        switch (what) {
            case 0: return ours.debtor[d];
            case 1: return present.creditor(d);
            case 2: return ours.sum[d];
            case 3: return present.isOpen(d) ? 1 : 0;
            case 4: return findPayment(d) ? payment.total : NONE;
            case 5: return worldPays(d) ? 1 : 0;
            case 6: return heirs(d);
            default: return BAD;
        }
    }

    // ---- what is done

    public int pays(int d) {
        if (!ours.hasDebt(d)) return BAD;
        if (!present.isOpen(d) || !payment.settles(ours, present, d, present.creditor(d))) return STATE;
        present.remember();
        present.settle(d, ours.debtor[d], payment.used);
        return payment.total;
    }

    public int trades(int p, int c, int q, int e) {
        if (!ours.hasPerson(p) || !ours.hasCoin(c) || !ours.hasPerson(q) || !ours.hasCoin(e)) return BAD;
        if (p == q || c == e) return BAD;
        if (present.held(p, c) < 1 || present.held(q, e) < 1) return STATE;
        if (ours.worth[c] != ours.worth[e]) return STATE;
        if (present.held(p, e) >= MAX_HELD || present.held(q, c) >= MAX_HELD) return STATE;
        present.remember();
        present.add(p, c, -1);
        present.add(q, c, 1);
        present.add(q, e, -1);
        present.add(p, e, 1);
        return present.held(p, e);
    }

    public int loses(int p, int c) {
        if (!ours.hasPerson(p) || !ours.hasCoin(c)) return BAD;
        if (present.held(p, c) < 1) return STATE;
        present.remember();
        present.add(p, c, -1);
        return present.held(p, c);
    }

    public int finds(int p, int c) {
        if (!ours.hasPerson(p) || !ours.hasCoin(c)) return BAD;
        if (present.held(p, c) >= MAX_HELD) return STATE;
        present.remember();
        present.add(p, c, 1);
        return present.held(p, c);
    }

    public int passes(int d, int p) {
        if (!ours.hasDebt(d) || !ours.hasPerson(p)) return BAD;
        int was = present.creditor(d);
        if (!present.isOpen(d) || p == ours.debtor[d] || p == was) return STATE;
        present.remember();
        present.setCreditor(d, p);
        return was;
    }

    public int undo() {
        if (present.known < 1) return STATE;
        present.stepBack();
        return present.known;
    }

    public int now(int what) {
        switch (what) {
            case 0: return present.openBits();
            case 1: return helpless();
            case 2: return allWealth();
            case 3: return openSums();
            default: return BAD;
        }
    }

    // ---- payments

    public int pieces(int d, int c) {
        if (!ours.hasDebt(d) || !ours.hasCoin(c)) return BAD;
        return findPayment(d) ? payment.used[c] : NONE;
    }

    public int order(int i) {
        if (i < -1 || i >= MAX_DEBTS) return BAD;
        rows.search(ours, present, payment);
        if (i < 0) return rows.bestLength;
        return i < rows.bestLength ? rows.best[i] : NONE;
    }

    public int lender(int p) {
        if (!ours.hasPerson(p)) return BAD;
        int best = NONE;
        int bestEase = -1;
        for (int q = 0; q < ours.people; q++) {
            if (q == p || !present.holdsAnything(q)) continue;
            int ease = ease(q);
            if (ease > bestEase) {
                best = q;
                bestEase = ease;
            }
        }
        return best;
    }

    public int corner(int d) {
        if (!ours.hasDebt(d)) return BAD;
        world.gather(ours, present, d);
        return world.fewestKindsToCorner();
    }

    public int odds(int d, int x, int what) {
        if (!ours.hasDebt(d) || x < 0 || x > PARTS || what < 0 || what > 1) return BAD;
        world.gather(ours, present, d);
        int upper = world.oddsUpper(x);
        int lower = world.oddsLower();
        int common = commonDivisor(upper, lower);
        if (common < 1) return BAD;
        return (what == 0 ? upper : lower) / common;
    }

    // ---- when one was born

    public int took(int c) {
        if (!ours.hasCoin(c)) return BAD;
        if (takenCount >= MAX_TOOK) return FULL;
        taken[takenCount] = c;
        takenCount++;
        return takenCount;
    }

    public int forget() {
        int had = takenCount;
        takenCount = 0;
        return had;
    }

    public int years(int what) {
        if (what < 0 || what > 2) return BAD;
        int many = 0;
        int first = NONE;
        int last = NONE;
        for (int year = 0; year <= MAX_YEAR; year++) {
            if (!allTakenDoFor(year)) continue;
            if (many == 0) first = year;
            last = year;
            many++;
        }
        if (what == 0) return many;
        return what == 1 ? first : last;
    }

    // ---- kinds, images

    public int mark(int kind, int c) {
        if (kind < 0 || kind >= KINDS || !ours.hasCoin(c)) return NO;
        switch (kind) {
            case 0: return asCoin(c);
            case 1: return asGroat(c);
            case 2: return asSixpence(c);
            case 3: return asFour(c);
            case 4: return asWidow(c);
            default: return asFake(c);
        }
    }

    public int keep(int image) {
        if (image < 0 || image >= IMAGES) return BAD;
        images[image].become(present);
        keptImages |= 1 << image;
        return Integer.bitCount(present.openBits());
    }

    public int back(int image) {
        if (image < 0 || image >= IMAGES) return BAD;
        if ((keptImages >> image & 1) == 0) return STATE;
        present.become(images[image]);
        return Integer.bitCount(present.openBits());
    }

    public int count(int what) {
        switch (what) {
            case 0: return ours.coins;
            case 1: return ours.people;
            case 2: return ours.debts;
            case 3: return ours.span;
            case 4: return takenCount;
            case 5: return present.known;
            case 6: return typed;
            default: return BAD;
        }
    }

    public long trace() {
        return traced;
    }

    // ---- what the calls share

    private boolean findPayment(int d) {
        return payment.find(ours, present, d, present.creditor(d));
    }

    private boolean worldPays(int d) {
        world.gather(ours, present, d);
        return world.paysWithout(0);
    }

    private int heirs(int d) {
        // only what is open can be paid, to whomever
        if (!present.isOpen(d)) return 0;
        int bits = 0;
        for (int p = 0; p < ours.people; p++) {
            if (p != ours.debtor[d] && payment.settles(ours, present, d, p)) bits |= 1 << p;
        }
        return bits;
    }

    private int helpless() {
        int bits = 0;
        for (int d = 0; d < ours.debts; d++) {
            if (present.isOpen(d) && !worldPays(d)) bits |= 1 << d;
        }
        return bits;
    }

    private int wealth(int p) {
        int worth = 0;
        for (int c = 0; c < ours.coins; c++) worth += present.held(p, c) * ours.worth[c];
        return worth;
    }

    private int allWealth() {
        int worth = 0;
        for (int p = 0; p < ours.people; p++) worth += wealth(p);
        return worth;
    }

    private int openSums() {
        int sums = 0;
        for (int d = 0; d < ours.debts; d++) {
            if (present.isOpen(d)) sums += ours.sum[d];
        }
        return sums;
    }

    private int ease(int p) {
        int worth = 0;
        for (int c = 0; c < ours.coins; c++) {
            if (ours.does(c, p)) worth += present.inAll(c) * ours.worth[c];
        }
        return worth;
    }

    private boolean allTakenDoFor(int born) {
        for (int i = 0; i < takenCount; i++) {
            if (!ours.isAbout(taken[i], born + CHILD_AGE)) return false;
        }
        return true;
    }

    private static int commonDivisor(int a, int b) {
        int large = a;
        int small = b;
        // Euclid halves the numbers every two steps, so 64 are enough for any int
        for (int i = 0; i < 64 && small != 0; i++) {
            int rest = large % small;
            large = small;
            small = rest;
        }
        return large;
    }

    private int asCoin(int c) {
        traced += 1;
        return ours.worth[c];
    }

    private int asGroat(int c) {
        traced += 10;
        return asCoin(c) + present.inAll(c);
    }

    private int asSixpence(int c) {
        traced += 100;
        return asCoin(c) - ours.struck[c];
    }

    private int asFour(int c) {
        traced += 1000;
        return asGroat(c) * 2;
    }

    private int asWidow(int c) {
        traced += 10000;
        return asSixpence(c) + Integer.bitCount(ours.peopleFor(c));
    }

    private int asFake(int c) {
        traced += 100000;
        return asCoin(c) + Integer.bitCount(present.openBits());
    }

    /** What a text tells: it stays as it is until the next text is read. */
    private static final class Land {
        private int coins = 0;
        private final int[] struck = new int[MAX_COINS];
        private final int[] worth = new int[MAX_COINS];
        private int people = 0;
        private final int[] born = new int[MAX_PEOPLE];
        private final int[] toldHolds = new int[MAX_PEOPLE * MAX_COINS];
        private int debts = 0;
        private final int[] debtor = new int[MAX_DEBTS];
        private final int[] firstCreditor = new int[MAX_DEBTS];
        private final int[] sum = new int[MAX_DEBTS];
        private int span = FIRST_SPAN;
        private boolean spanTold = false;

        private void empty() {
            coins = 0;
            people = 0;
            debts = 0;
            span = FIRST_SPAN;
            spanTold = false;
            for (int i = 0; i < toldHolds.length; i++) toldHolds[i] = 0;
        }

        private boolean hasCoin(int c) {
            return c >= 0 && c < coins;
        }

        private boolean hasPerson(int p) {
            return p >= 0 && p < people;
        }

        private boolean hasDebt(int d) {
            return d >= 0 && d < debts;
        }

        private boolean isAbout(int c, int year) {
            return struck[c] <= year && year < struck[c] + span;
        }

        private boolean does(int c, int p) {
            return isAbout(c, born[p] + CHILD_AGE);
        }

        private int peopleFor(int c) {
            int bits = 0;
            for (int p = 0; p < people; p++) {
                if (does(c, p)) bits |= 1 << p;
            }
            return bits;
        }

        private int coinsFor(int p) {
            int bits = 0;
            for (int c = 0; c < coins; c++) {
                if (does(c, p)) bits |= 1 << c;
            }
            return bits;
        }
    }

    /** Reads a text into a land, token by token. */
    private static final class Reader {
        private static final int END = 0, LETTERS = 1, NUMBER = 2, ENDING = 3, WRONG = 4;
        private static final int BLANK = 32;

        private int[] bytes = new int[0];
        private int length = 0;
        private int at = 0;
        private int start = 0;
        private int token = END;
        private int value = 0;

        /** How many items there are, or -10 less the place of the fault. */
        private int read(int[] text, int typed, Land land) {
            bytes = text;
            length = Math.min(typed, text.length);
            at = 0;
            land.empty();
            int items = 0;
            for (int i = 0; i <= MAX_TEXT; i++) {
                step();
                if (token == END) break;
                if (!readItem(land)) return -10 - start;
                items++;
            }
            return items;
        }

        private boolean readItem(Land land) {
            if (token != LETTERS) return false;
            switch (value) {
                case 'c': return readCoin(land);
                case 'p': return readPerson(land);
                case 'h': return readHolds(land);
                case 'd': return readDebt(land);
                case 's': return readSpan(land);
                default: return false;
            }
        }

        private boolean readCoin(Land land) {
            if (land.coins >= MAX_COINS) return false;
            if (!readNumber(0, MAX_YEAR)) return false;
            land.struck[land.coins] = value;
            if (!readNumber(1, MAX_WORTH)) return false;
            land.worth[land.coins] = value;
            land.coins++;
            return readEnding();
        }

        private boolean readPerson(Land land) {
            if (land.people >= MAX_PEOPLE) return false;
            if (!readNumber(0, MAX_YEAR)) return false;
            land.born[land.people] = value;
            land.people++;
            return readEnding();
        }

        private boolean readHolds(Land land) {
            if (!readNumber(0, land.people - 1)) return false;
            int p = value;
            if (!readNumber(0, land.coins - 1)) return false;
            int c = value;
            if (!readNumber(0, MAX_TOLD)) return false;
            land.toldHolds[p * MAX_COINS + c] = value;
            return readEnding();
        }

        private boolean readDebt(Land land) {
            if (land.debts >= MAX_DEBTS) return false;
            if (!readNumber(0, land.people - 1)) return false;
            int debtor = value;
            if (!readNumber(0, land.people - 1) || value == debtor) return false;
            int creditor = value;
            if (!readNumber(1, MAX_SUM)) return false;
            land.debtor[land.debts] = debtor;
            land.firstCreditor[land.debts] = creditor;
            land.sum[land.debts] = value;
            land.debts++;
            return readEnding();
        }

        private boolean readSpan(Land land) {
            if (land.spanTold) return false;
            if (!readNumber(1, MAX_SPAN)) return false;
            land.span = value;
            land.spanTold = true;
            return readEnding();
        }

        private boolean readNumber(int least, int most) {
            step();
            return token == NUMBER && value >= least && value <= most;
        }

        private boolean readEnding() {
            step();
            return token == ENDING;
        }

        /** Goes to the next token; at the end its start is the text's length, the fault of a text that ends too early. */
        private void step() {
            while (at < length && bytes[at] == BLANK) at++;
            start = at;
            value = 0;
            if (at >= length) {
                token = END;
                return;
            }
            token = sortOf(bytes[at]);
            at++;
            if (token == LETTERS || token == NUMBER) {
                while (at < length && sortOf(bytes[at]) == token) at++;
            }
            if (token == LETTERS) weighLetters();
            if (token == NUMBER) weighNumber();
        }

        /** Every item's name has one letter, so longer ones keep the value 0, which begins none. */
        private void weighLetters() {
            if (at - start == 1) value = bytes[start];
        }

        private void weighNumber() {
            int digits = at - start;
            if (digits > 2 || digits == 2 && bytes[start] == '0') {
                token = WRONG;
                return;
            }
            for (int i = start; i < at; i++) value = value * 10 + bytes[i] - '0';
        }

        private static int sortOf(int b) {
            if (b >= 'a' && b <= 'z') return LETTERS;
            if (b >= '0' && b <= '9') return NUMBER;
            return b == ';' ? ENDING : WRONG;
        }
    }

    /** What changes while debts are paid and coins wander, and what of it may be undone. */
    private static final class Now {
        private static final int CREDITORS = MAX_PEOPLE * MAX_COINS;
        private static final int OPEN = CREDITORS + MAX_DEBTS;
        private static final int CELLS = OPEN + 1;

        private final int[] cells = new int[CELLS];
        private final int[] past = new int[MAX_UNDO * CELLS];
        private int known = 0;

        private void begin(Land land) {
            System.arraycopy(land.toldHolds, 0, cells, 0, CREDITORS);
            System.arraycopy(land.firstCreditor, 0, cells, CREDITORS, MAX_DEBTS);
            cells[OPEN] = (1 << land.debts) - 1;
            known = 0;
        }

        private void become(Now other) {
            System.arraycopy(other.cells, 0, cells, 0, CELLS);
            System.arraycopy(other.past, 0, past, 0, past.length);
            known = other.known;
        }

        /** Becomes the other without its past, which a search has no use for. */
        private void becomeAnew(Now other) {
            System.arraycopy(other.cells, 0, cells, 0, CELLS);
            known = 0;
        }

        private void remember() {
            if (known >= MAX_UNDO) {
                known = MAX_UNDO - 1;
                System.arraycopy(past, CELLS, past, 0, known * CELLS);
            }
            System.arraycopy(cells, 0, past, known * CELLS, CELLS);
            known++;
        }

        private void stepBack() {
            if (known < 1) return;
            known--;
            System.arraycopy(past, known * CELLS, cells, 0, CELLS);
        }

        private int held(int p, int c) {
            return cells[p * MAX_COINS + c];
        }

        private void add(int p, int c, int many) {
            cells[p * MAX_COINS + c] += many;
        }

        private int inAll(int c) {
            int many = 0;
            for (int p = 0; p < MAX_PEOPLE; p++) many += held(p, c);
            return many;
        }

        private boolean holdsAnything(int p) {
            for (int c = 0; c < MAX_COINS; c++) {
                if (held(p, c) > 0) return true;
            }
            return false;
        }

        private int creditor(int d) {
            return cells[CREDITORS + d];
        }

        private void setCreditor(int d, int p) {
            cells[CREDITORS + d] = p;
        }

        private int openBits() {
            return cells[OPEN];
        }

        private boolean isOpen(int d) {
            return (cells[OPEN] >> d & 1) == 1;
        }

        private void settle(int d, int debtor, int[] used) {
            int creditor = creditor(d);
            for (int c = 0; c < MAX_COINS; c++) {
                add(debtor, c, -used[c]);
                add(creditor, c, used[c]);
            }
            cells[OPEN] &= ~(1 << d);
        }
    }

    /** The payment of a debt in fewest pieces, by what its debtor holds. */
    private static final class Payment {
        private static final int WIDTH = MAX_SUM + 1;
        // far above any number of pieces, and still far from int's end when pieces are added
        private static final int NEVER = 1000000;

        private final int[] stock = new int[MAX_COINS];
        private final int[] used = new int[MAX_COINS];
        // row k: the fewest pieces for each sum by the coins k and above
        private final int[] fewest = new int[(MAX_COINS + 1) * WIDTH];
        private int total = 0;

        /** Whether the debt could be paid if this were the creditor, who can't hold more than so many. */
        private boolean settles(Land land, Now now, int d, int creditor) {
            if (!find(land, now, d, creditor)) return false;
            for (int c = 0; c < land.coins; c++) {
                if (now.held(creditor, c) + used[c] > MAX_HELD) return false;
            }
            return true;
        }

        private boolean find(Land land, Now now, int d, int creditor) {
            for (int c = 0; c < MAX_COINS; c++) {
                boolean good = c < land.coins && land.does(c, creditor);
                stock[c] = good ? now.held(land.debtor[d], c) : 0;
                used[c] = 0;
            }
            int sum = land.sum[d];
            fillFewest(land, sum);
            total = fewest[sum];
            if (total >= NEVER) return false;
            choose(land, sum);
            return true;
        }

        private void fillFewest(Land land, int sum) {
            int last = land.coins * WIDTH;
            for (int s = 0; s <= sum; s++) fewest[last + s] = s == 0 ? 0 : NEVER;
            for (int c = land.coins - 1; c >= 0; c--) {
                for (int s = 0; s <= sum; s++) {
                    fewest[c * WIDTH + s] = fewestFrom(c, land.worth[c], s);
                }
            }
        }

        private int fewestFrom(int c, int worth, int sum) {
            int best = NEVER;
            int rest = sum;
            for (int n = 0; n <= stock[c] && rest >= 0; n++) {
                int many = n + fewest[(c + 1) * WIDTH + rest];
                if (many < best) best = many;
                rest -= worth;
            }
            return best;
        }

        /** Takes the fewest of coin 0, then of coin 1 and so on, that still let the fewest pieces be reached. */
        private void choose(Land land, int sum) {
            int rest = sum;
            for (int c = 0; c < land.coins; c++) {
                int goal = fewest[c * WIDTH + rest];
                for (int n = 0; n <= stock[c] && n * land.worth[c] <= rest; n++) {
                    int left = rest - n * land.worth[c];
                    if (n + fewest[(c + 1) * WIDTH + left] == goal) {
                        used[c] = n;
                        rest = left;
                        break;
                    }
                }
            }
        }
    }

    /** What all hold together and what does for one debt's creditor. */
    private static final class World {
        private final int[] stock = new int[MAX_COINS];
        private final int[] worth = new int[MAX_COINS];
        private int coins = 0;
        private int sum = 0;

        private void gather(Land land, Now now, int d) {
            coins = land.coins;
            sum = land.sum[d];
            int creditor = now.creditor(d);
            for (int c = 0; c < coins; c++) {
                worth[c] = land.worth[c];
                stock[c] = land.does(c, creditor) ? now.inAll(c) : 0;
            }
        }

        private boolean paysWithout(int lost) {
            // bit s: the sum s can be laid; sums up to 60 fit into a long, higher ones fall out of no use
            long reach = 1L;
            for (int c = 0; c < coins; c++) {
                if ((lost >> c & 1) == 1) continue;
                int laid = 0;
                for (int n = 0; n < stock[c] && laid < sum; n++) {
                    reach |= reach << worth[c];
                    laid += worth[c];
                }
            }
            return (reach >>> sum & 1L) == 1L;
        }

        private int fewestKindsToCorner() {
            if (!paysWithout(0)) return 0;
            int best = (1 << coins) - 1;
            for (int kinds = 1; kinds < 1 << coins; kinds++) {
                if (Integer.bitCount(kinds) < Integer.bitCount(best) && !paysWithout(kinds)) best = kinds;
            }
            return best;
        }

        /** The odds in parts of oddsLower(), not yet in least terms. */
        private int oddsUpper(int x) {
            int upper = 0;
            for (int lost = 0; lost < 1 << coins; lost++) {
                if (paysWithout(lost)) upper += chance(lost, x);
            }
            return upper;
        }

        private int oddsLower() {
            int lower = 1;
            for (int c = 0; c < coins; c++) lower *= PARTS;
            return lower;
        }

        private int chance(int lost, int x) {
            int parts = 1;
            for (int c = 0; c < coins; c++) parts *= (lost >> c & 1) == 1 ? x : PARTS - x;
            return parts;
        }
    }

    /** The search for the row of open debts that can be paid one behind another. */
    private static final class Rows {
        private final Now trial = new Now();
        private final int[] row = new int[MAX_DEBTS];
        private final int[] best = new int[MAX_DEBTS];
        private int bestLength = 0;

        private void search(Land land, Now now, Payment payment) {
            trial.becomeAnew(now);
            bestLength = 0;
            extend(this, land, payment, 0);
        }

        /** Rows come in the order of their numbers, so of several as long the first found stays. */
        private static void extend(Rows rows, Land land, Payment payment, int depth) {
            rows.noteRow(depth);
            if (depth >= MAX_DEBTS) return;
            Now trial = rows.trial;
            for (int d = 0; d < land.debts; d++) {
                // no row from here can be longer than the best, even if all that is left were paid
                if (depth + Integer.bitCount(trial.openBits()) <= rows.bestLength) return;
                if (!trial.isOpen(d) || !payment.settles(land, trial, d, trial.creditor(d))) continue;
                rows.row[depth] = d;
                trial.remember();
                trial.settle(d, land.debtor[d], payment.used);
                extend(rows, land, payment, depth + 1);
                trial.stepBack();
            }
        }

        private void noteRow(int length) {
            if (length <= bestLength) return;
            bestLength = length;
            System.arraycopy(row, 0, best, 0, length);
        }
    }
}
