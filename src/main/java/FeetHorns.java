import java.util.Arrays;

/** Beasts told by what is seen of them through a fence with three holes. */
public final class FeetHorns {
    public static final int NONE = -1, BAD = -2, STATE = -3, FULL = -4;
    public static final long NO = Long.MIN_VALUE;

    private static final int NOT_FOUND = -5, NO_SUCH_WHAT = -1001, NO_MIX = -100001, FAULT_BASE = -10;
    private static final int NOTHING = -11, CAST = -12, PLACE = -13, SIZE = -14;

    private static final int BEAST = 0, HORNED = 1, CALF = 2, LAME = 3, PROUD = 4, HIDDEN = 5, TOLD = 6;
    private static final int KINDS = 7;
    private static final int[] KIND_ABOVE = {-1, BEAST, BEAST, BEAST, HORNED, CALF, LAME};

    private static final int FEET_HOLE = 0, HORNS_HOLE = 1, HOLES = 3, HOLE_OF_OWE = 9;
    private static final int MAX_SORTS = 5, MAX_HEADS = 12, MONTH_COUNT = 12, ROW_PARTS = 3;
    private static final int MAX_TOLD = 999, MAX_BOOK = 12, MAX_FENCES = 6, MAX_TEXT = 100, LAST_SIGN = 127;
    private static final int MAX_CLAUSES = 10, MAX_NESTING = 4, USUAL_MOST = 8, GREATEST_MOST = 9;
    private static final int UNTOLD = -1, NO_FENCE = -1;
    private static final int PRICE_ROWS = 1000, LAST_DIVISOR = 30;

    /** Places of the traits of a sort; feet, horns and tails stand in the order of the holes. */
    private static final int KIND = 0, NUMBER = 1, FEET = 2, TOLL = 5, TRAITS = 6;

    private static final int GOES = 0, SHOWS = 1, TELLS = 2, ACT_COUNT = 3, MAX_TRACE = 20;

    private static final int BYTES = 0, SHORTS = 1, INTS = 2, LONGS = 3, BOOLEANS = 4;
    private static final int EMPTY = -1, TAPES = 6, MAX_ITEMS = 60;

    private static final int OWE = 0, SEE = 1, MOST = 2;

    /** Above the number of any herds or steps that a call can need. */
    private static final int MANY = 1000000;

    private final State now = new State();
    private final State kept = new State();
    private boolean hasImage;
    private final FenceText text = new FenceText();
    private final Fence openFence = new Fence();
    private final Fence[] fences = new Fence[MAX_FENCES];
    private int fenceCount;
    private final Sight sight = new Sight();
    private final Search search = new Search(sight);
    private final int[] wanted = new int[HOLES];
    private final Acts acts = new Acts();
    private final Tape[] tapes = new Tape[TAPES];

    public FeetHorns() {
        for (int i = 0; i < MAX_FENCES; i++) {
            fences[i] = new Fence();
        }
        for (int i = 0; i < TAPES; i++) {
            tapes[i] = new Tape();
        }
    }

    // ---- sorts, herds, fences

    public int sort(int kind, int v, int feet, int horns, int tails, int toll) {
        if (!within(kind, 0, KINDS - 1)) {
            return NONE;
        }
        if (!isDigit(v) || !isDigit(feet) || !isDigit(horns) || !isDigit(tails) || !within(toll, 0, 99)) {
            return BAD;
        }
        if (now.sorts >= MAX_SORTS) {
            return FULL;
        }
        int sort = now.sorts;
        int[] traits = now.traits[sort];
        traits[KIND] = kind;
        traits[NUMBER] = v;
        traits[FEET] = feet;
        traits[FEET + 1] = horns;
        traits[FEET + 2] = tails;
        traits[TOLL] = toll;
        now.sorts = sort + 1;
        return sort;
    }

    public int of(int sort, int what) {
        if (!isSort(sort)) {
            return NONE;
        }
        if (within(what, 0, TRAITS - 1)) {
            return now.traits[sort][what];
        }
        if (what == 7 || what == 8) {
            return now.herds[what - 7][sort];
        }
        look();
        if (what == 6) {
            return sight.owes[sort];
        }
        return isHole(what - 10) ? sight.shows[sort][what - 10] : NONE;
    }

    public int herd(int sort, int which, int n) {
        if (!isSort(sort) || !within(which, 0, 1)) {
            return NONE;
        }
        if (!within(n, 0, MAX_HEADS)) {
            return BAD;
        }
        int before = now.herds[which][sort];
        now.herds[which][sort] = n;
        return before;
    }

    public int row(int sort, int part, int n) {
        if (!isSort(sort) || !within(part, 0, ROW_PARTS - 1)) {
            return NONE;
        }
        if (!isDigit(n)) {
            return BAD;
        }
        if (now.traits[sort][KIND] != TOLD) {
            return STATE;
        }
        int before = now.rows[sort][part];
        now.rows[sort][part] = n;
        return before;
    }

    public int month(int n) {
        if (!within(n, 0, MONTH_COUNT - 1)) {
            return BAD;
        }
        int before = now.month;
        now.month = n;
        return before;
    }

    public int tell(int hole, int n) {
        if (!isHole(hole)) {
            return NONE;
        }
        if (n != UNTOLD && !within(n, 0, MAX_TOLD)) {
            return BAD;
        }
        now.told[hole] = n;
        return 1;
    }

    public int feed(int sign) {
        if (!within(sign, 0, LAST_SIGN)) {
            return BAD;
        }
        if (text.length >= MAX_TEXT) {
            return FULL;
        }
        text.add(sign);
        return text.length;
    }

    public int fence() {
        if (fenceCount >= MAX_FENCES) {
            return FULL;
        }
        int fault = text.readInto(fences[fenceCount]);
        text.length = 0;
        if (fault >= 0) {
            return FAULT_BASE - fault;
        }
        now.fence = fenceCount;
        fenceCount++;
        return now.fence;
    }

    public int told(int what) {
        look();
        switch (what) {
            case 0:
                return sight.most;
            case 1:
                return now.month;
            case 2:
            case 3:
                return sight.tollOf(now.herds[what - 2]);
            default:
                return toldByHole(what);
        }
    }

    private int toldByHole(int what) {
        if (isHole(what - 10)) {
            return sight.total(now.herds[0], what - 10);
        }
        if (isHole(what - 20)) {
            return sight.total(now.herds[1], what - 20);
        }
        if (isHole(what - 30)) {
            int n = now.told[what - 30];
            return n == UNTOLD ? NOT_FOUND : n;
        }
        return NO_SUCH_WHAT;
    }

    // ---- which herds it can be

    public int fits(int what) {
        boolean asksSort = isSort(what - 10);
        if (!asksSort && !within(what, 0, 2)) {
            return NO_SUCH_WHAT;
        }
        searchFitting();
        if (what == 0) {
            return search.found;
        }
        if (search.found == 0) {
            return NOT_FOUND;
        }
        if (asksSort) {
            return search.first[what - 10];
        }
        return what == 1 ? search.least : search.greatest;
    }

    public int bars() {
        look();
        for (int d = 2; d <= LAST_DIVISOR; d++) {
            for (int hole = 0; hole < HOLES; hole++) {
                if (now.told[hole] != UNTOLD && isBarred(d, hole)) {
                    return 100 * d + hole;
                }
            }
        }
        return NOT_FOUND;
    }

    /** Sums of what the sorts show leave by d just the multiples of the divisor that all have in common with d. */
    private boolean isBarred(int d, int hole) {
        long common = d;
        for (int s = 0; s < now.sorts; s++) {
            common = commonDivisor(common, sight.shows[s][hole]);
        }
        return common > 0 && now.told[hole] % common != 0;
    }

    public int hole(int what) {
        if (!within(what, 0, 1)) {
            return NONE;
        }
        look();
        int best = NOT_FOUND;
        int fewest = NOT_FOUND;
        for (int hole = 0; hole < HOLES; hole++) {
            if (now.told[hole] == UNTOLD) {
                int found = foundIfTold(hole);
                if (best == NOT_FOUND || found < fewest) {
                    best = hole;
                    fewest = found;
                }
            }
        }
        return what == 0 ? best : fewest;
    }

    private int foundIfTold(int hole) {
        System.arraycopy(now.told, 0, wanted, 0, HOLES);
        wanted[hole] = sight.total(now.herds[0], hole);
        search.find(sight.most, wanted);
        return search.found;
    }

    public int alike(int what) {
        boolean asksSort = isSort(what - 10);
        if (!asksSort && what != 0) {
            return NO_SUCH_WHAT;
        }
        look();
        wantCountsOfHerd();
        search.find(sight.most, wanted);
        if (search.found == 0) {
            return NOT_FOUND;
        }
        return asksSort ? search.first[what - 10] : search.least;
    }

    public int missed() {
        look();
        int excess = search.leastExcess(sight.most, now.told);
        return excess < 0 ? NOT_FOUND : excess;
    }

    // ---- drovers, prices

    public int mix() {
        look();
        wantCountsOfHerd();
        for (int hole = 0; hole < HOLES; hole++) {
            wanted[hole] += sight.total(now.herds[1], hole);
        }
        search.find(2 * sight.most, wanted);
        if (search.found == 0) {
            return NO_MIX;
        }
        return sight.tollOf(now.herds[0]) + sight.tollOf(now.herds[1]) - search.least;
    }

    public int prices(int what) {
        boolean asksHole = isHole(what - 1);
        if (!asksHole && what != 0) {
            return NONE;
        }
        look();
        wantCountsOfHerd();
        int best = bestPrices(wanted);
        return asksHole ? priceBy(best, what - 1) : pays(best, wanted);
    }

    /** A row of prices is one number, whose three digits are the prices: so rows come in their order. */
    private int bestPrices(int[] counts) {
        int best = 0;
        for (int row = 1; row < PRICE_ROWS; row++) {
            if (pays(row, counts) > pays(best, counts) && isFair(row)) {
                best = row;
            }
        }
        return best;
    }

    private boolean isFair(int priceRow) {
        for (int s = 0; s < now.sorts; s++) {
            if (pays(priceRow, sight.shows[s]) > sight.owes[s]) {
                return false;
            }
        }
        return true;
    }

    private static int pays(int priceRow, int[] counts) {
        int sum = 0;
        for (int hole = 0; hole < HOLES; hole++) {
            sum += priceBy(priceRow, hole) * counts[hole];
        }
        return sum;
    }

    private static int priceBy(int priceRow, int hole) {
        if (hole == FEET_HOLE) {
            return priceRow / 100;
        }
        return hole == HORNS_HOLE ? priceRow / 10 % 10 : priceRow % 10;
    }

    public int hid() {
        look();
        for (int s = 0; s < now.sorts; s++) {
            for (int n = 1; n <= now.herds[0][s]; n++) {
                if (isToldWithout(s, n)) {
                    return 100 * s + n;
                }
            }
        }
        return NOT_FOUND;
    }

    /** Whether the herd shows all that is told when n of a sort are left out. */
    private boolean isToldWithout(int sort, int n) {
        for (int hole = 0; hole < HOLES; hole++) {
            int left = sight.total(now.herds[0], hole) - n * sight.shows[sort][hole];
            if (now.told[hole] != UNTOLD && now.told[hole] != left) {
                return false;
            }
        }
        return true;
    }

    public int months() {
        int bits = 0;
        for (int m = 0; m < MONTH_COUNT; m++) {
            sight.look(now, holdingFence(), m);
            if (isToldWithout(0, 0)) {
                bits |= 1 << m;
            }
        }
        return bits;
    }

    // ---- odds, books

    public long odds(int sort, int part) {
        searchFitting();
        return sharePerHerdFound(search.having, sort, part);
    }

    public long mean(int sort, int part) {
        searchFitting();
        return sharePerHerdFound(search.heads, sort, part);
    }

    /** A part of the fraction, in lowest terms, of what the search summed up for a sort by how many herds it found. */
    private long sharePerHerdFound(int[] sums, int sort, int part) {
        if (!isSort(sort) || !within(part, 0, 1) || search.found == 0) {
            return NO;
        }
        long common = commonDivisor(search.found, sums[sort]);
        if (common <= 0) {
            return NO;
        }
        return (part == 0 ? sums[sort] : search.found) / common;
    }

    public int book(int hole, int n) {
        if (hole == -1) {
            now.bookRows = 0;
            return 0;
        }
        if (!isHole(hole)) {
            return NONE;
        }
        if (!within(n, 0, MAX_TOLD)) {
            return BAD;
        }
        if (now.bookRows >= MAX_BOOK) {
            return FULL;
        }
        now.bookHoles[now.bookRows] = hole;
        now.bookNumbers[now.bookRows] = n;
        now.bookRows++;
        return now.bookRows;
    }

    public int looked() {
        look();
        for (int i = 0; i < now.bookRows; i++) {
            if (now.bookNumbers[i] != sight.total(now.herds[0], now.bookHoles[i])) {
                return i;
            }
        }
        return NOT_FOUND;
    }

    // ---- judging, the image, acts, tapes

    public int judge(int tape, int i) {
        if (!isTape(tape)) {
            return NONE;
        }
        Tape row = tapes[tape];
        if (!row.isEmpty() && row.sort != BYTES) {
            return CAST;
        }
        for (int s = 0; s < now.sorts; s++) {
            if (!row.has(i + s)) {
                return 100 + s;
            }
            if (row.items[i + s] != now.herds[0][s]) {
                return s;
            }
        }
        return NOT_FOUND;
    }

    public int image() {
        kept.become(now);
        hasImage = true;
        return now.sorts;
    }

    public int undo() {
        if (!hasImage) {
            return STATE;
        }
        now.become(kept);
        return now.sorts;
    }

    public int act(int sort, int act, int x) {
        acts.forget();
        if (!isSort(sort) || !within(act, 0, ACT_COUNT - 1)) {
            return 0;
        }
        return acts.start(now.traits[sort], sort, act, x);
    }

    public int trace(int i) {
        return within(i, 0, Math.min(acts.ran, MAX_TRACE) - 1) ? acts.bodies[i] : NONE;
    }

    public int taken(int sort, int k) {
        if (!within(k, 0, KINDS - 1)) {
            return BAD;
        }
        if (!isSort(sort)) {
            return NOTHING;
        }
        int kind = now.traits[sort][KIND];
        return isKindOf(kind, k) ? kind : CAST;
    }

    public int count(int what) {
        switch (what) {
            case 0:
                return now.sorts;
            case 1:
                return fenceCount;
            case 2:
                return now.bookRows;
            case 3:
                return text.length;
            case 4:
                return acts.ran;
            default:
                return BAD;
        }
    }

    public int tape(int tape, int sort, int n) {
        if (!isTape(tape)) {
            return NONE;
        }
        if (!within(sort, EMPTY, BOOLEANS)) {
            return BAD;
        }
        if (sort != EMPTY && n > MAX_ITEMS) {
            return BAD;
        }
        if (sort != EMPTY && n < 0) {
            return SIZE;
        }
        tapes[tape].become(sort, n);
        return 1;
    }

    public int item(int tape, int i, long v) {
        if (!isTape(tape)) {
            return NONE;
        }
        if (tapes[tape].isEmpty()) {
            return NOTHING;
        }
        if (!tapes[tape].has(i)) {
            return PLACE;
        }
        tapes[tape].put(i, v);
        return 1;
    }

    public long read(int tape, int i) {
        return isTape(tape) && tapes[tape].has(i) ? tapes[tape].items[i] : NO;
    }

    public int shift(int tape, int i, int other, int j, int n) {
        if (!isTape(tape) || !isTape(other)) {
            return NONE;
        }
        Tape from = tapes[tape];
        Tape to = tapes[other];
        if (from.isEmpty() || to.isEmpty()) {
            return NOTHING;
        }
        if (from.sort != to.sort) {
            return CAST;
        }
        if (!from.hasRun(i, n) || !to.hasRun(j, n)) {
            return PLACE;
        }
        System.arraycopy(from.items, i, to.items, j, n);
        return n;
    }

    // ---- what several calls need

    private static boolean within(int n, int least, int greatest) {
        return n >= least && n <= greatest;
    }

    private static boolean isDigit(int n) {
        return within(n, 0, 9);
    }

    private static boolean isHole(int n) {
        return within(n, 0, HOLES - 1);
    }

    private static boolean isTape(int n) {
        return within(n, 0, TAPES - 1);
    }

    private boolean isSort(int n) {
        return within(n, 0, now.sorts - 1);
    }

    /** The tree of kinds is three high: a kind, the one above it, and BEAST above all. */
    private static boolean isKindOf(int kind, int other) {
        return other == BEAST || other == kind || other == KIND_ABOVE[kind];
    }

    private static long commonDivisor(long a, long b) {
        long divisor = a;
        long rest = b;
        for (int i = 0; i < MANY && rest != 0; i++) {
            long next = divisor % rest;
            divisor = rest;
            rest = next;
        }
        return divisor;
    }

    private Fence holdingFence() {
        return within(now.fence, 0, MAX_FENCES - 1) ? fences[now.fence] : openFence;
    }

    private void look() {
        sight.look(now, holdingFence(), now.month);
    }

    private void searchFitting() {
        look();
        search.find(sight.most, now.told);
    }

    private void wantCountsOfHerd() {
        for (int hole = 0; hole < HOLES; hole++) {
            wanted[hole] = sight.total(now.herds[0], hole);
        }
    }

    /** All that an image keeps. */
    private static final class State {
        int sorts;
        final int[][] traits = new int[MAX_SORTS][TRAITS];
        final int[][] rows = new int[MAX_SORTS][ROW_PARTS];
        final int[][] herds = new int[2][MAX_SORTS];
        int month;
        final int[] told = {UNTOLD, UNTOLD, UNTOLD};
        int bookRows;
        final int[] bookHoles = new int[MAX_BOOK];
        final int[] bookNumbers = new int[MAX_BOOK];
        int fence = NO_FENCE;

        /** All places are copied, not only those of sorts there are: so what a new sort finds is always 0. */
        void become(State other) {
            sorts = other.sorts;
            for (int s = 0; s < MAX_SORTS; s++) {
                System.arraycopy(other.traits[s], 0, traits[s], 0, TRAITS);
                System.arraycopy(other.rows[s], 0, rows[s], 0, ROW_PARTS);
            }
            System.arraycopy(other.herds[0], 0, herds[0], 0, MAX_SORTS);
            System.arraycopy(other.herds[1], 0, herds[1], 0, MAX_SORTS);
            month = other.month;
            System.arraycopy(other.told, 0, told, 0, HOLES);
            bookRows = other.bookRows;
            System.arraycopy(other.bookHoles, 0, bookHoles, 0, MAX_BOOK);
            System.arraycopy(other.bookNumbers, 0, bookNumbers, 0, MAX_BOOK);
            fence = other.fence;
        }
    }

    /**
     * A fence that was read: clauses, each with its word, its number and the end of its code (which begins where
     * the code of the clause ahead of it ends). Code is in postfix order, so that no evaluation has to recurse.
     */
    private static final class Fence {
        static final int NOT = -1, AND = -2, OR = -3;

        int clauses;
        int codeLength;
        final int[] words = new int[MAX_CLAUSES];
        final int[] numbers = new int[MAX_CLAUSES];
        final int[] codeEnds = new int[MAX_CLAUSES];
        // each code stands for one byte of the text at least
        final int[] code = new int[MAX_TEXT];

        void clear() {
            clauses = 0;
            codeLength = 0;
        }

        void addCode(int c) {
            if (codeLength < MAX_TEXT) {
                code[codeLength] = c;
                codeLength++;
            }
        }

        void addClause(int word, int number) {
            if (clauses < MAX_CLAUSES) {
                words[clauses] = word;
                numbers[clauses] = number;
                codeEnds[clauses] = codeLength;
                clauses++;
            }
        }

        int mostBeasts() {
            int most = USUAL_MOST;
            for (int c = 0; c < clauses; c++) {
                if (words[c] == MOST) {
                    most = Math.min(numbers[c], GREATEST_MOST);
                }
            }
            return most;
        }

        /** The numbers of all clauses of a word that hold, together. */
        int sumOf(int word, int[] letters) {
            int sum = 0;
            for (int c = 0; c < clauses; c++) {
                if (words[c] == word && holds(c, letters)) {
                    sum += numbers[c];
                }
            }
            return sum;
        }

        /** The stack is an int's bits: nesting is limited so far that never more than eleven are on it. */
        private boolean holds(int clause, int[] letters) {
            int stack = 0;
            for (int i = clause == 0 ? 0 : codeEnds[clause - 1]; i < codeEnds[clause]; i++) {
                int top = stack & 1;
                switch (code[i]) {
                    case NOT:
                        stack ^= 1;
                        break;
                    case AND:
                        stack = (stack >>> 1) & (top | ~1);
                        break;
                    case OR:
                        stack = (stack >>> 1) | top;
                        break;
                    default:
                        stack = (stack << 1) | (testHolds(code[i], letters) ? 1 : 0);
                }
            }
            return (stack & 1) == 1;
        }

        static int testCode(int letter, int relation, int number) {
            return (letter * 3 + relation) * 100 + number;
        }

        private static boolean testHolds(int test, int[] letters) {
            int value = letters[test / 300];
            int number = test % 100;
            switch (test / 100 % 3) {
                case 0:
                    return value < number;
                case 1:
                    return value == number;
                default:
                    return value > number;
            }
        }
    }

    /** The text that is fed, and how it is read. */
    private static final class FenceText {
        private static final String LETTERS = "skvfmh", RELATIONS = "<=>", DIGITS = "0123456789";

        private final byte[] signs = new byte[MAX_TEXT];
        int length;
        private int place;
        private boolean failed;
        private Fence fence;

        void add(int sign) {
            if (length < MAX_TEXT) {
                signs[length] = (byte) sign;
                length++;
            }
        }

        /** -1, or the place of the fault; what the fence is then does not matter. */
        int readInto(Fence into) {
            fence = into;
            fence.clear();
            place = 0;
            failed = false;
            for (int i = 0; i < MAX_CLAUSES; i++) {
                readClause();
                if (!failed && place == length) {
                    return -1;
                }
                if (i == MAX_CLAUSES - 1 || !takes(';')) {
                    break;
                }
            }
            return place;
        }

        private void readClause() {
            int word = isAt('o') ? OWE : isAt('s') ? SEE : MOST;
            need(word == OWE ? "owe " : word == SEE ? "see " : "most ");
            int number = readNumber();
            if (word != MOST) {
                need(" ");
                readEither(0);
            }
            fence.addClause(word, number);
        }

        private void readEither(int depth) {
            for (int i = 0; i == 0 || i < MAX_TEXT && takes('|'); i++) {
                readFactor(depth);
                for (int j = 0; j < MAX_TEXT && takes('&'); j++) {
                    readFactor(depth);
                    fence.addCode(Fence.AND);
                }
                if (i > 0) {
                    fence.addCode(Fence.OR);
                }
            }
        }

        /** Each ! stands within those ahead of it, and holds for the whole F behind it. */
        private void readFactor(int depth) {
            int inside = depth;
            for (int i = depth; i < MAX_NESTING && takes('!'); i++) {
                inside++;
            }
            if (inside < MAX_NESTING && takes('(')) {
                readEither(inside + 1);
                need(")");
            } else {
                readTest();
            }
            for (int i = depth; i < inside; i++) {
                fence.addCode(Fence.NOT);
            }
        }

        private void readTest() {
            int letter = takesOneOf(LETTERS, true);
            int relation = takesOneOf(RELATIONS, true);
            fence.addCode(Fence.testCode(letter, relation, readNumber()));
        }

        private int readNumber() {
            int first = takesOneOf(DIGITS, true);
            int second = takesOneOf(DIGITS, false);
            return second < 0 ? first : first * 10 + second;
        }

        /** Once a sign has failed none is taken any more, so that the place stays. */
        private boolean isAt(char sign) {
            return !failed && place < length && signs[place] == sign;
        }

        private boolean takes(char sign) {
            boolean there = isAt(sign);
            if (there) {
                place++;
            }
            return there;
        }

        private void need(String all) {
            for (int i = 0; i < all.length(); i++) {
                if (!takes(all.charAt(i))) {
                    failed = true;
                }
            }
        }

        /** Which of some signs is there and was taken, or -1. */
        private int takesOneOf(String some, boolean needed) {
            int found = failed || place >= length ? -1 : some.indexOf((char) signs[place]);
            if (found >= 0) {
                place++;
            } else if (needed) {
                failed = true;
            }
            return found;
        }
    }

    /** What one beast of each sort shows and owes, in one month behind one fence. */
    private static final class Sight {
        int sorts;
        int most;
        final int[][] shows = new int[MAX_SORTS][HOLES];
        final int[] owes = new int[MAX_SORTS];
        // in the order of FenceText.LETTERS
        private final int[] letters = new int[6];

        void look(State state, Fence fence, int month) {
            sorts = state.sorts;
            most = fence.mostBeasts();
            for (int s = 0; s < sorts; s++) {
                int[] traits = state.traits[s];
                letters[0] = s;
                letters[1] = traits[KIND];
                letters[2] = traits[NUMBER];
                letters[3] = traits[FEET];
                letters[4] = month;
                letters[5] = HOLE_OF_OWE;
                owes[s] = traits[TOLL] + fence.sumOf(OWE, letters);
                for (int hole = 0; hole < HOLES; hole++) {
                    letters[5] = hole;
                    int plain = traits[FEET + hole] + fence.sumOf(SEE, letters);
                    shows[s][hole] = shown(traits, hole, plain, month, state.rows[s][month % ROW_PARTS]);
                }
            }
        }

        /** plain: what a BEAST would show; toldTails: what the row of a TOLD one says. */
        private static int shown(int[] traits, int hole, int plain, int month, int toldTails) {
            int kind = traits[KIND];
            if (kind == HIDDEN && month == traits[NUMBER]) {
                return 0;
            }
            if (hole == FEET_HOLE) {
                return isKindOf(kind, LAME) ? Math.max(0, plain - 1) : plain;
            }
            if (hole == HORNS_HOLE) {
                if (isKindOf(kind, CALF) && month < 5) {
                    return 0;
                }
                return isKindOf(kind, HORNED) ? plain + traits[NUMBER] % 2 : plain;
            }
            if (kind == TOLD) {
                return toldTails;
            }
            return kind == PROUD ? 2 * plain : plain;
        }

        int total(int[] herd, int hole) {
            int sum = 0;
            for (int s = 0; s < sorts; s++) {
                sum += herd[s] * shows[s][hole];
            }
            return sum;
        }

        int tollOf(int[] herd) {
            int sum = 0;
            for (int s = 0; s < sorts; s++) {
                sum += herd[s] * owes[s];
            }
            return sum;
        }
    }

    /** Goes through all herds in their order as rows, and keeps what is asked of those found. */
    private static final class Search {
        private final Sight sight;

        // the herd that the search is at
        private final int[] row = new int[MAX_SORTS];
        private final int[] counts = new int[HOLES];
        private int beasts;
        private int toll;
        private boolean ended;

        // what was found
        int found;
        int least;
        int greatest;
        final int[] first = new int[MAX_SORTS];
        final int[] having = new int[MAX_SORTS];
        final int[] heads = new int[MAX_SORTS];

        Search(Sight sight) {
            this.sight = sight;
        }

        /** Finds the herds that have the counts wanted, where one is wanted. */
        void find(int mostBeasts, int[] counted) {
            found = 0;
            least = 0;
            greatest = 0;
            Arrays.fill(having, 0);
            Arrays.fill(heads, 0);
            begin();
            for (int i = 0; i < MANY && !ended; i++) {
                if (excess(counted) == 0) {
                    keep();
                }
                advance(mostBeasts, isBeyond(counted));
            }
        }

        /** By how little the counts of a herd are above those given, together; -1: each has one below. */
        int leastExcess(int mostBeasts, int[] counted) {
            int lowest = -1;
            begin();
            for (int i = 0; i < MANY && !ended; i++) {
                int more = excess(counted);
                if (more >= 0 && (lowest < 0 || more < lowest)) {
                    lowest = more;
                }
                advance(mostBeasts, false);
            }
            return lowest;
        }

        private void begin() {
            Arrays.fill(row, 0);
            Arrays.fill(counts, 0);
            beasts = 0;
            toll = 0;
            ended = false;
        }

        /** No beast shows less than nothing: behind a row that is beyond, those that only add to it are, too. */
        private void advance(int mostBeasts, boolean beyond) {
            boolean full = beyond || beasts >= mostBeasts;
            for (int s = sight.sorts - 1; s >= 0; s--) {
                if (!full) {
                    addBeasts(s, 1);
                    return;
                }
                if (row[s] > 0) {
                    addBeasts(s, -row[s]);
                    full = false;
                }
            }
            ended = true;
        }

        private void addBeasts(int s, int n) {
            row[s] += n;
            beasts += n;
            toll += n * sight.owes[s];
            for (int hole = 0; hole < HOLES; hole++) {
                counts[hole] += n * sight.shows[s][hole];
            }
        }

        /** -1: some count is below. */
        private int excess(int[] counted) {
            int sum = 0;
            for (int hole = 0; hole < HOLES; hole++) {
                if (counted[hole] != UNTOLD) {
                    if (counts[hole] < counted[hole]) {
                        return -1;
                    }
                    sum += counts[hole] - counted[hole];
                }
            }
            return sum;
        }

        private boolean isBeyond(int[] counted) {
            for (int hole = 0; hole < HOLES; hole++) {
                if (counted[hole] != UNTOLD && counts[hole] > counted[hole]) {
                    return true;
                }
            }
            return false;
        }

        private void keep() {
            // only a lower toll replaces the first, so that of several the first as a row stays
            if (found == 0 || toll < least) {
                least = toll;
                System.arraycopy(row, 0, first, 0, MAX_SORTS);
            }
            greatest = Math.max(greatest, toll);
            found++;
            for (int s = 0; s < sight.sorts; s++) {
                having[s] += row[s] > 0 ? 1 : 0;
                heads[s] += row[s];
            }
        }
    }

    /** What the beasts do, and the trace of it. */
    private static final class Acts {
        /** The deepest acts, telling of PROUD and of TOLD ones, have six bodies open at once. */
        private static final int MAX_OPEN = 20;

        /** The body that each kind has, or inherits, for each act. */
        private static final int[] BODIES = {
            10, 11, 12,
            10, 20, 12,
            30, 11, 12,
            10, 11, 40,
            50, 51, 12,
            30, 11, 60,
            71, 70, 40,
        };

        int ran;
        final int[] bodies = new int[MAX_TRACE];
        private int kind;
        private int number;
        private int v;

        void forget() {
            ran = 0;
        }

        int start(int[] traits, int sort, int act, int x) {
            kind = traits[KIND];
            v = traits[NUMBER];
            number = sort;
            return run(act, kind, x, 0);
        }

        /** As kind says whose body is looked for first: the beast's own, or that above a body that says super. */
        private int run(int act, int asKind, int x, int open) {
            if (open >= MAX_OPEN) {
                return 0;
            }
            int body = BODIES[asKind * ACT_COUNT + act];
            begins(body);
            return done(body, x, open + 1);
        }

        private int done(int body, int x, int open) {
            switch (body) {
                case 10:
                    return x + number;
                case 11:
                    return run(GOES, kind, x, open) - v;
                case 12:
                    return run(SHOWS, kind, x, open) * 2;
                case 20:
                    return run(SHOWS, BEAST, x, open) ^ 6;
                case 30:
                    return run(GOES, BEAST, x * 3, open);
                case 40:
                    return run(TELLS, BEAST, x, open) + run(SHOWS, kind, 1, open);
                case 50:
                    return -run(GOES, HORNED, x, open);
                case 51:
                    return run(SHOWS, HORNED, x + 1, open);
                case 60:
                    return run(TELLS, CALF, x - number, open);
                case 70:
                    return run(SHOWS, LAME, x, open) + run(GOES, LAME, 2, open);
                default:
                    return run(GOES, LAME, x, open) ^ v;
            }
        }

        private void begins(int body) {
            if (ran < MAX_TRACE) {
                bodies[ran] = body;
            }
            ran++;
        }
    }

    /** A row of items of one sort, or nothing. Longs hold the items of every sort. */
    private static final class Tape {
        int sort = EMPTY;
        private int length;
        final long[] items = new long[MAX_ITEMS];

        void become(int newSort, int n) {
            sort = newSort;
            length = newSort == EMPTY ? 0 : n;
            Arrays.fill(items, 0L);
        }

        boolean isEmpty() {
            return sort == EMPTY;
        }

        boolean has(int i) {
            return within(i, 0, length - 1);
        }

        boolean hasRun(int from, int n) {
            return n >= 0 && from >= 0 && from <= length && n <= length - from;
        }

        void put(int i, long v) {
            items[i] = cut(v);
        }

        private long cut(long v) {
            switch (sort) {
                case BYTES:
                    return (byte) v;
                case SHORTS:
                    return (short) v;
                case INTS:
                    return (int) v;
                case BOOLEANS:
                    return v != 0 ? 1 : 0;
                default:
                    return v;
            }
        }
    }
}
