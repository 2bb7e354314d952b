/** A wool sale: growers' bales are pooled to lots, and buyers bid for these by programs of their own. */
public final class WoolSale {
    private static final int GROWERS = 8;
    private static final int BALES = 48;
    private static final int LOTS = 30;
    private static final int BUYERS = 6;
    private static final int RINGS = 3;
    private static final int FIRST_CLASS = 4;
    private static final int CLASSES = 10;
    private static final int KINDS = 4;
    private static final int TAPE = 1000;
    private static final int PAPER = 1024;
    private static final int TOKENS = 250;
    private static final int DEPTH = 8;
    private static final int LETS = 8;
    private static final int GREATEST_LIMIT = 9999;
    private static final int LINE_END = 10;

    // The columns of the tables stand in the order in which the face's calls number them.
    private static final int BALE_GROWER = 0;
    private static final int BALE_MICRON = 1;
    private static final int BALE_LENGTH = 2;
    private static final int BALE_YIELD = 3;
    private static final int BALE_WEIGHT = 4;
    private static final int BALE_CLEAN = 5;
    private static final int BALE_LOT = 6;
    private static final int BALE_COLUMNS = 7;

    private static final int LOT_BALES = 0;
    private static final int LOT_WEIGHT = 1;
    private static final int LOT_CLEAN = 2;
    private static final int LOT_MICRON = 3;
    private static final int LOT_LENGTH = 4;
    private static final int LOT_YIELD = 5;
    private static final int LOT_CLASS = 6;
    private static final int LOT_COLUMNS = 7;

    private static final int SOLD_TO = 0;
    private static final int SOLD_AT = 1;
    private static final int OFFERED = 2;
    private static final int SALE_COLUMNS = 3;

    private static final int PURSE = 0;
    private static final int NEED = 1;
    private static final int BOUGHT = 2;
    private static final int BOUGHT_LOTS = 3;
    private static final int RING = 4;
    private static final int GRUDGE = 5;
    private static final int GOT = 6;
    private static final int PAID = 7;
    private static final int BUYER_COLUMNS = 8;

    private static final int RING_LOTS = 0;
    private static final int RING_SHARED = 1;
    private static final int RING_COLUMNS = 2;

    private static final int COUNTS = 11;

    private final Wool wool = new Wool();
    private final Book book = new Book();
    private final Book trial = new Book();
    private final Scanner scanner = new Scanner();
    private final Parser parser = new Parser(scanner);
    private final Auction auction = new Auction(wool);
    private final Clerk clerk = new Clerk(wool, auction);
    private final Paper paper = new Paper();
    private int errorPlace = -1;

    public WoolSale() {
    }

    // ---- wool

    public int addGrower() throws IllegalStateException {
        needState(wool.growers < GROWERS);
        wool.growers++;
        return wool.growers - 1;
    }

    public int bring(int grower, int micron, int length, int part, int weight)
            throws IndexOutOfBoundsException, IllegalArgumentException, IllegalStateException {
        needIndex(inside(grower, wool.growers));
        needArgument(within(micron, 14, 40) && within(length, 30, 120)
                && within(part, 40, 80) && within(weight, 50, 200));
        needState(wool.bales < BALES);
        return wool.store(grower, micron, length, part, weight);
    }

    public int pool(int microns, int lengths, int most) throws IllegalArgumentException, IllegalStateException {
        needArgument(within(microns, 0, 10) && within(lengths, 0, 60) && within(most, 1, 12));
        int planned = wool.planLots(microns, lengths, most);
        needState(wool.lots + planned <= LOTS);
        wool.makeLots(planned);
        return planned;
    }

    public int bale(int bale, int what) throws IndexOutOfBoundsException {
        needIndex(inside(bale, wool.bales) && inside(what, BALE_COLUMNS));
        return cell(wool.baleFacts, bale, what);
    }

    public int lot(int lot, int what) throws IndexOutOfBoundsException {
        needIndex(inside(lot, wool.lots) && inside(what, LOT_COLUMNS + SALE_COLUMNS));
        return what < LOT_COLUMNS ? cell(wool.lotFacts, lot, what) : cell(book.sales, lot, what - LOT_COLUMNS);
    }

    // ---- buyers and programs

    public int addBuyer(int purse, int need) throws IllegalArgumentException, IllegalStateException {
        needArgument(within(purse, 0, 10000000) && within(need, 0, 100000));
        needState(book.buyers < BUYERS);
        return book.enter(purse, need);
    }

    public int feed(int a, int b, int c, int d, int e) throws IllegalStateException {
        needState(scanner.length + 20 <= TAPE);
        scanner.append(a);
        scanner.append(b);
        scanner.append(c);
        scanner.append(d);
        scanner.append(e);
        return scanner.length;
    }

    public int trim(int n) throws IllegalArgumentException {
        needArgument(within(n, 0, scanner.length));
        scanner.length = n;
        return n;
    }

    public int teach(int buyer) throws IndexOutOfBoundsException {
        needIndex(inside(buyer, book.buyers) && inside(buyer, BUYERS));
        parser.read();
        scanner.length = 0;
        errorPlace = parser.errorPlace();
        if (parser.error() == 0) {
            auction.programs[buyer] = parser.exchange(auction.programs[buyer]);
        }
        return parser.error();
    }

    public int errorAt() {
        return errorPlace;
    }

    public int buyer(int buyer, int what) throws IndexOutOfBoundsException {
        needIndex(inside(buyer, book.buyers) && inside(what, BUYER_COLUMNS + 1));
        return what < BUYER_COLUMNS ? cell(book.people, buyer, what) : auction.partsOf(buyer);
    }

    public int limit(int buyer, int lot) throws IndexOutOfBoundsException {
        needIndex(inside(buyer, book.buyers) && inside(lot, wool.lots));
        return auction.limitOf(book, buyer, lot);
    }

    public int join(int buyer, int ring) throws IndexOutOfBoundsException, IllegalArgumentException {
        needIndex(inside(buyer, book.buyers) && inside(buyer, BUYERS));
        needArgument(within(ring, -1, RINGS - 1));
        book.people[buyer][RING] = ring;
        book.people[buyer][GRUDGE] = 0;
        return ring < 0 ? 0 : book.members(ring);
    }

    // ---- sales

    public int sell(int lot, int kind, int reserve, int step)
            throws IndexOutOfBoundsException, IllegalArgumentException, IllegalStateException {
        needIndex(inside(lot, wool.lots));
        needTerms(kind, reserve, step);
        needState(!book.isSold(lot));
        return clerk.offer(book, lot, kind, reserve, step);
    }

    public int session(int kind, int reserve, int step) throws IllegalArgumentException {
        needTerms(kind, reserve, step);
        return clerk.offerAll(book, kind, reserve, step);
    }

    public int would(int lot, int kind, int reserve, int step, int what)
            throws IndexOutOfBoundsException, IllegalArgumentException, IllegalStateException {
        needIndex(inside(lot, wool.lots) && inside(what, 3));
        needTerms(kind, reserve, step);
        needState(!book.isSold(lot));
        auction.takeLimits(book, lot);
        auction.decide(book, kind, reserve, step);
        if (what == 0) {
            return auction.price;
        }
        return what == 1 ? auction.winner : auction.bidders;
    }

    public int bestReserve(int lot, int kind, int step)
            throws IndexOutOfBoundsException, IllegalArgumentException, IllegalStateException {
        needIndex(inside(lot, wool.lots));
        needTerms(kind, 0, step);
        needState(!book.isSold(lot));
        auction.takeLimits(book, lot);
        int best = -1;
        int bestPrice = -1;
        for (int reserve = 0; reserve <= 1000; reserve += 20) {
            auction.decide(book, kind, reserve, step);
            if (auction.price > bestPrice) {
                best = reserve;
                bestPrice = auction.price;
            }
        }
        return best;
    }

    public int bestKind(int reserve, int step) throws IllegalArgumentException {
        needTerms(0, reserve, step);
        int best = -1;
        int bestCoins = total(book.coins);
        for (int kind = 0; kind < KINDS; kind++) {
            trial.copyFrom(book);
            clerk.offerAll(trial, kind, reserve, step);
            int coins = total(trial.coins);
            if (coins > bestCoins) {
                best = kind;
                bestCoins = coins;
            }
        }
        return best;
    }

    // ---- what is told

    public int grower(int grower, int what) throws IndexOutOfBoundsException {
        needIndex(inside(grower, wool.growers) && inside(what, 4));
        if (what == 0) {
            return at(book.coins, grower);
        }
        int told = 0;
        for (int b = 0; b < wool.bales && b < BALES; b++) {
            if (wool.baleFacts[b][BALE_GROWER] == grower) {
                told += toldOfBale(b, what);
            }
        }
        return told;
    }

    public int ring(int ring, int what) throws IndexOutOfBoundsException {
        needIndex(inside(ring, RINGS) && inside(what, 2 + RING_COLUMNS));
        if (what == 0) {
            return book.members(ring);
        }
        return what == 1 ? book.memberSet(ring) : cell(book.rings, ring, what - 2);
    }

    public int index(int micronClass) throws IndexOutOfBoundsException {
        needIndex(within(micronClass, FIRST_CLASS, FIRST_CLASS + CLASSES - 1));
        return at(book.indexes, micronClass - FIRST_CLASS);
    }

    public int count(int what) throws IndexOutOfBoundsException {
        needIndex(inside(what, COUNTS));
        switch (what) {
            case 0: return wool.growers;
            case 1: return wool.bales;
            case 2: return wool.bales - wool.joinedBales;
            case 3: return wool.lots;
            case 4: return book.column(BOUGHT_LOTS);
            case 5: return book.buyers;
            case 6: return scanner.length;
            case 7: return book.column(PAID);
            case 8: return book.column(PAID) - total(book.coins);
            case 9: return book.leavers;
            default: return paper.size;
        }
    }

    public int list() {
        paper.size = 0;
        for (int lot = 0; lot < wool.lots && lot < LOTS; lot++) {
            writeLine(lot);
        }
        return paper.size;
    }

    public int byteAt(int index) throws IndexOutOfBoundsException {
        needIndex(inside(index, paper.size) && inside(index, PAPER));
        return paper.bytes[index];
    }

    public double mean() {
        int clean = book.column(BOUGHT);
        return clean > 0 ? (double) book.column(PAID) / (double) clean : 0.0;
    }

    public long digest() {
        long d = 569;
        for (int what = 0; what < COUNTS; what++) {
            d = d * 31 + count(what);
        }
        for (int g = 0; g < wool.growers; g++) {
            for (int what = 0; what < 4; what++) {
                d = d * 31 + grower(g, what);
            }
        }
        for (int b = 0; b < wool.bales; b++) {
            d = d * 31 + bale(b, BALE_LOT);
        }
        for (int l = 0; l < wool.lots; l++) {
            for (int what = 0; what < LOT_COLUMNS + SALE_COLUMNS; what++) {
                d = d * 31 + lot(l, what);
            }
        }
        return digestOfBuyers(d);
    }

    private long digestOfBuyers(long start) {
        long d = start;
        for (int b = 0; b < book.buyers; b++) {
            for (int what = 0; what <= BUYER_COLUMNS; what++) {
                d = d * 31 + buyer(b, what);
            }
        }
        for (int r = 0; r < RINGS; r++) {
            for (int what = 0; what < 2 + RING_COLUMNS; what++) {
                d = d * 31 + ring(r, what);
            }
        }
        for (int c = 0; c < CLASSES; c++) {
            d = d * 31 + book.indexes[c];
        }
        for (int i = 0; i < paper.size && i < PAPER; i++) {
            d = d * 31 + paper.bytes[i];
        }
        return d;
    }

    private int toldOfBale(int bale, int what) {
        if (what == 1) {
            return 1;
        }
        if (what == 2) {
            return book.isSold(cell(wool.baleFacts, bale, BALE_LOT)) ? 1 : 0;
        }
        return cell(wool.baleFacts, bale, BALE_CLEAN);
    }

    private void writeLine(int lot) {
        paper.writeNumber(lot);
        paper.write(':');
        int bales = cell(wool.lotFacts, lot, LOT_BALES);
        for (int place = 0; place < bales && place < BALES; place++) {
            paper.write(' ');
            paper.writeNumber(wool.baleOf(lot, place));
        }
        if (book.isSold(lot)) {
            paper.write(' ');
            paper.write('>');
            paper.writeNumber(cell(book.sales, lot, SOLD_TO));
            paper.write('@');
            paper.writeNumber(cell(book.sales, lot, SOLD_AT));
        }
        paper.write(LINE_END);
    }

    private static void needTerms(int kind, int reserve, int step) {
        needArgument(inside(kind, KINDS) && within(reserve, 0, 5000) && within(step, 1, 100));
    }

    private static void needIndex(boolean holds) {
        if (!holds) {
            throw new IndexOutOfBoundsException();
        }
    }

    private static void needArgument(boolean holds) {
        if (!holds) {
            throw new IllegalArgumentException();
        }
    }

    private static void needState(boolean holds) {
        if (!holds) {
            throw new IllegalStateException();
        }
    }

    private static boolean inside(int i, int size) {
        return i >= 0 && i < size;
    }

    private static boolean within(int value, int least, int most) {
        return value >= least && value <= most;
    }

    // The rows are read and written through these where the index is not a loop's own: no index goes untested.
    private static int at(int[] row, int i) {
        return i >= 0 && i < row.length ? row[i] : 0;
    }

    private static void put(int[] row, int i, int value) {
        if (i >= 0 && i < row.length) {
            row[i] = value;
        }
    }

    private static int cell(int[][] table, int row, int column) {
        return row >= 0 && row < table.length ? at(table[row], column) : 0;
    }

    private static int total(int[] row) {
        int sum = 0;
        for (int i = 0; i < row.length; i++) {
            sum += row[i];
        }
        return sum;
    }

    private static int quotient(int dividend, int divisor) {
        return divisor == 0 ? 0 : dividend / divisor;
    }

    private static void copyTable(int[][] from, int[][] to) {
        for (int i = 0; i < from.length && i < to.length; i++) {
            copyRow(from[i], to[i]);
        }
    }

    private static void copyRow(int[] from, int[] to) {
        for (int i = 0; i < from.length && i < to.length; i++) {
            to[i] = from[i];
        }
    }

    /** The bales and the lots made of them: what a sale leaves as it is. */
    private static final class Wool {
        int growers;
        int bales;
        int lots;
        final int[][] baleFacts = new int[BALES][BALE_COLUMNS];
        final int[][] lotFacts = new int[LOTS][LOT_COLUMNS];
        // All bales of lots in the order in which they joined; those of one lot stand together.
        final int[] joined = new int[BALES];
        int joinedBales;
        final int[] firstPlace = new int[LOTS];
        // The plan of a pooling: the bales of the store in their order, and the new lot of each.
        final int[] order = new int[BALES];
        final int[] group = new int[BALES];
        int waiting;

        int store(int grower, int micron, int length, int part, int weight) {
            if (bales >= BALES) {
                return -1;
            }
            int[] facts = baleFacts[bales];
            facts[BALE_GROWER] = grower;
            facts[BALE_MICRON] = micron;
            facts[BALE_LENGTH] = length;
            facts[BALE_YIELD] = part;
            facts[BALE_WEIGHT] = weight;
            facts[BALE_CLEAN] = weight * part / 100;
            facts[BALE_LOT] = -1;
            bales++;
            return bales - 1;
        }

        int baleOf(int lot, int place) {
            return at(joined, at(firstPlace, lot) + place);
        }

        /** Tells how many lots there would be, so that too many can be refused before anything changes. */
        int planLots(int microns, int lengths, int most) {
            orderStore();
            int planned = 0;
            for (int i = 0; i < waiting && i < BALES; i++) {
                if (group[i] < 0) {
                    gather(i, planned, microns, lengths, most);
                    planned++;
                }
            }
            return planned;
        }

        private void gather(int first, int number, int microns, int lengths, int most) {
            put(group, first, number);
            int size = 1;
            for (int i = first + 1; i < waiting && i < BALES && size < most; i++) {
                if (group[i] < 0 && fits(at(order, first), order[i], microns, lengths)) {
                    group[i] = number;
                    size++;
                }
            }
        }

        private boolean fits(int first, int other, int microns, int lengths) {
            int finer = cell(baleFacts, other, BALE_MICRON) - cell(baleFacts, first, BALE_MICRON);
            int longer = cell(baleFacts, other, BALE_LENGTH) - cell(baleFacts, first, BALE_LENGTH);
            return finer <= microns && Math.abs(longer) <= lengths;
        }

        private void orderStore() {
            waiting = 0;
            for (int b = 0; b < bales && b < BALES; b++) {
                group[b] = -1;
                if (baleFacts[b][BALE_LOT] < 0) {
                    queue(b);
                }
            }
        }

        /** Bales come here by ascending number, so that equal ones stay in the order of their numbers. */
        private void queue(int bale) {
            int place = waiting;
            while (place > 0 && isAhead(bale, at(order, place - 1))) {
                put(order, place, at(order, place - 1));
                place--;
            }
            put(order, place, bale);
            waiting++;
        }

        private boolean isAhead(int bale, int other) {
            int microns = cell(baleFacts, bale, BALE_MICRON) - cell(baleFacts, other, BALE_MICRON);
            int lengths = cell(baleFacts, bale, BALE_LENGTH) - cell(baleFacts, other, BALE_LENGTH);
            return microns < 0 || microns == 0 && lengths < 0;
        }

        void makeLots(int planned) {
            for (int number = 0; number < planned && lots < LOTS; number++) {
                int[] facts = lotFacts[lots];
                firstPlace[lots] = joinedBales;
                for (int i = 0; i < waiting && i < BALES; i++) {
                    if (group[i] == number) {
                        addTo(facts, order[i]);
                    }
                }
                reckon(facts);
                lots++;
            }
        }

        /** Sums weigh the microns and lengths; reckon makes means of them. */
        private void addTo(int[] facts, int bale) {
            if (!inside(bale, BALES) || facts.length < LOT_COLUMNS) {
                return;
            }
            int clean = baleFacts[bale][BALE_CLEAN];
            facts[LOT_BALES]++;
            facts[LOT_WEIGHT] += baleFacts[bale][BALE_WEIGHT];
            facts[LOT_CLEAN] += clean;
            facts[LOT_MICRON] += baleFacts[bale][BALE_MICRON] * clean;
            facts[LOT_LENGTH] += baleFacts[bale][BALE_LENGTH] * clean;
            baleFacts[bale][BALE_LOT] = lots;
            put(joined, joinedBales, bale);
            joinedBales++;
        }

        private void reckon(int[] facts) {
            if (facts.length < LOT_COLUMNS) {
                return;
            }
            facts[LOT_MICRON] = quotient(facts[LOT_MICRON], facts[LOT_CLEAN]);
            facts[LOT_LENGTH] = quotient(facts[LOT_LENGTH], facts[LOT_CLEAN]);
            facts[LOT_YIELD] = quotient(facts[LOT_CLEAN] * 100, facts[LOT_WEIGHT]);
            facts[LOT_CLASS] = facts[LOT_MICRON] / 3;
        }
    }

    /** All that a sale changes, kept apart so that a session can be tried on a copy. */
    private static final class Book {
        int buyers;
        int leavers;
        final int[] coins = new int[GROWERS];
        final int[] indexes = new int[CLASSES];
        final int[][] people = new int[BUYERS][BUYER_COLUMNS];
        final int[][] sales = new int[LOTS][SALE_COLUMNS];
        final int[][] rings = new int[RINGS][RING_COLUMNS];

        Book() {
            for (int b = 0; b < BUYERS; b++) {
                people[b][RING] = -1;
            }
            for (int l = 0; l < LOTS; l++) {
                sales[l][SOLD_TO] = -1;
                sales[l][SOLD_AT] = -1;
            }
        }

        void copyFrom(Book other) {
            buyers = other.buyers;
            leavers = other.leavers;
            copyRow(other.coins, coins);
            copyRow(other.indexes, indexes);
            copyTable(other.people, people);
            copyTable(other.sales, sales);
            copyTable(other.rings, rings);
        }

        int enter(int purse, int need) {
            if (buyers >= BUYERS) {
                return -1;
            }
            people[buyers][PURSE] = purse;
            people[buyers][NEED] = need;
            buyers++;
            return buyers - 1;
        }

        boolean isSold(int lot) {
            return inside(lot, LOTS) && sales[lot][SOLD_TO] >= 0;
        }

        boolean isIn(int buyer, int ring) {
            return ring >= 0 && inside(buyer, BUYERS) && people[buyer][RING] == ring;
        }

        int members(int ring) {
            return Integer.bitCount(memberSet(ring));
        }

        int memberSet(int ring) {
            int set = 0;
            for (int b = 0; b < BUYERS; b++) {
                if (isIn(b, ring)) {
                    set += 1 << b;
                }
            }
            return set;
        }

        /** The sum of one column over all buyers. */
        int column(int what) {
            int sum = 0;
            for (int b = 0; b < BUYERS; b++) {
                sum += cell(people, b, what);
            }
            return sum;
        }
    }

    /** The kinds of tokens; the longer one of two symbols stands first, since it is to be read. */
    private enum Token {
        END(""), BAD(""), NUMBER(""), NAME(""),
        LET("let"), WHEN("when"), BID("bid"), PASS("pass"),
        AND("and"), OR("or"), NOT("not"), MIN("min"), MAX("max"),
        AT_MOST("<="), AT_LEAST(">="), LESS("<"), MORE(">"), EQUAL("="),
        SEMICOLON(";"), OPEN("("), CLOSE(")"), SQUARE_OPEN("["), SQUARE_CLOSE("]"), COMMA(","),
        PLUS("+"), MINUS("-"), TIMES("*"), OVER("/");

        private static final Token[] ALL = values();

        final String text;
        final long code;

        Token(String text) {
            this.text = text;
            this.code = codeOf(text);
        }
    }

    /** The names that every program may use. */
    private enum Given {
        MICRON("micron"), LENGTH("length"), YIELD("yield"), WEIGHT("weight"), CLEAN("clean"),
        BALES("bales"), CLASS("class"), INDEX("index"),
        NEED("need"), PURSE("purse"), BOUGHT("bought"), RIVALS("rivals"), TURN("turn");

        private static final Given[] ALL = values();

        final long code;

        Given(String text) {
            this.code = codeOf(text);
        }
    }

    /** A word as a number, so that two words are compared at once: six bits a sign, and a word has ten at most. */
    private static long codeOf(String word) {
        long code = 0;
        for (int i = 0; i < word.length(); i++) {
            code = withSign(code, word.charAt(i));
        }
        return code;
    }

    private static long withSign(long code, int sign) {
        return code * 64 + (isDigit(sign) ? sign - '0' + 27 : sign - 'a' + 1);
    }

    private static boolean isLetter(int sign) {
        return sign >= 'a' && sign <= 'z';
    }

    private static boolean isDigit(int sign) {
        return sign >= '0' && sign <= '9';
    }

    /** The tape, and the tokens on it. */
    private static final class Scanner {
        int length;
        private final byte[] tape = new byte[TAPE];
        // One place more than there may be tokens: the last one is the end of the tape or a bad token.
        private final Token[] kinds = new Token[TOKENS + 1];
        private final int[] starts = new int[TOKENS + 1];
        private final long[] values = new long[TOKENS + 1];
        private int next;
        private long value;

        void append(int word) {
            for (int shift = 24; shift >= 0; shift -= 8) {
                if (length < TAPE) {
                    tape[length] = (byte) (word >> shift);
                    length++;
                }
            }
        }

        Token kind(int token) {
            return inside(token, kinds.length) ? kinds[token] : Token.BAD;
        }

        int start(int token) {
            return at(starts, token);
        }

        /** What a number is, or the code of a word. */
        long value(int token) {
            return inside(token, values.length) ? values[token] : 0;
        }

        /** Reads the tokens up to the end of the tape, or to the first one that can't be one. */
        void scan() {
            next = 0;
            Token kind = Token.NAME;
            for (int i = 0; i <= TOKENS && kind != Token.END && kind != Token.BAD; i++) {
                skipBlanks();
                starts[i] = next;
                kind = i < TOKENS || next >= length ? readToken() : Token.BAD;
                kinds[i] = kind;
                values[i] = value;
            }
        }

        private void skipBlanks() {
            while (next < length && (sign(next) == ' ' || sign(next) == LINE_END)) {
                next++;
            }
        }

        private int sign(int i) {
            return i >= 0 && i < length && i < TAPE ? tape[i] & 255 : -1;
        }

        private Token readToken() {
            value = 0;
            if (next >= length) {
                return Token.END;
            }
            if (isLetter(sign(next))) {
                return readWord();
            }
            return isDigit(sign(next)) ? readNumber() : readSymbol();
        }

        private Token readWord() {
            int start = next;
            while (next < length && (isLetter(sign(next)) || isDigit(sign(next)))) {
                value = withSign(value, sign(next));
                next++;
            }
            if (next - start > 10) {
                return Token.BAD;
            }
            for (int i = 0; i < Token.ALL.length; i++) {
                if (isLetter(firstSign(Token.ALL[i].text)) && Token.ALL[i].code == value) {
                    return Token.ALL[i];
                }
            }
            return Token.NAME;
        }

        private Token readNumber() {
            int start = next;
            while (next < length && isDigit(sign(next))) {
                value = value * 10 + sign(next) - '0';
                next++;
            }
            return next - start > 5 ? Token.BAD : Token.NUMBER;
        }

        private Token readSymbol() {
            for (int i = 0; i < Token.ALL.length; i++) {
                String text = Token.ALL[i].text;
                if (!text.isEmpty() && begins(text)) {
                    next += text.length();
                    return Token.ALL[i];
                }
            }
            return Token.BAD;
        }

        private static int firstSign(String text) {
            return text.isEmpty() ? -1 : text.charAt(0);
        }

        private boolean begins(String text) {
            for (int i = 0; i < text.length(); i++) {
                if (sign(next + i) != text.charAt(i)) {
                    return false;
                }
            }
            return true;
        }
    }

    /** A program in the order in which it is reckoned: operands ahead of what is done with them. */
    private static final class Program {
        static final int NUMBER = 0;
        static final int GIVEN = 1;
        static final int LOAD = 2;
        static final int STORE = 3;
        static final int TURN = 4;
        static final int NOT = 5;
        static final int BID = 6;
        static final int BID_IF = 7;
        static final int PASS = 8;
        static final int PASS_IF = 9;
        static final int ADD = 10;
        static final int SUBTRACT = 11;
        static final int MULTIPLY = 12;
        static final int DIVIDE = 13;
        static final int MIN = 14;
        static final int MAX = 15;
        static final int LESS = 16;
        static final int MORE = 17;
        static final int EQUAL = 18;
        static final int AT_MOST = 19;
        static final int AT_LEAST = 20;
        static final int AND = 21;
        static final int OR = 22;

        // No token makes more than one operation.
        final int[] operations = new int[TOKENS];
        final int[] arguments = new int[TOKENS];
        int size;
        int parts;

        void clear() {
            size = 0;
            parts = 0;
        }

        void add(int operation, int argument) {
            if (size < TOKENS) {
                operations[size] = operation;
                arguments[size] = argument;
                size++;
            }
        }
    }

    /** Reads a program off the tape. Behind the first wrong token no other one is looked at. */
    private static final class Parser {
        private final Scanner scanner;
        private Program out = new Program();
        private int token;
        private boolean failed;
        // The first error of a name; it counts only if no token is wrong.
        private int fault;
        private int faultAt;
        private int lets;
        private final long[] letCodes = new long[LETS];

        Parser(Scanner scanner) {
            this.scanner = scanner;
        }

        int error() {
            return failed ? 1 : fault;
        }

        int errorPlace() {
            return failed ? scanner.start(token) : faultAt;
        }

        /** Gives away the program that was read, for one that isn't used any longer, if there is one. */
        Program exchange(Program old) {
            Program read = out;
            out = old == null ? new Program() : old;
            return read;
        }

        void read() {
            out.clear();
            token = 0;
            failed = false;
            fault = 0;
            faultAt = -1;
            lets = 0;
            scanner.scan();
            for (int i = 0; i < TOKENS && !failed && !is(Token.END); i++) {
                part();
            }
            if (!is(Token.END)) {
                fail();
            }
        }

        private boolean is(Token kind) {
            return !failed && scanner.kind(token) == kind;
        }

        private void fail() {
            failed = true;
        }

        private void advance() {
            if (!failed) {
                token++;
            }
        }

        private void blame(int error) {
            if (fault == 0) {
                fault = error;
                faultAt = scanner.start(token);
            }
        }

        private void expect(Token kind) {
            if (is(kind)) {
                advance();
            } else {
                fail();
            }
        }

        /** Passes a token behind which it is one deeper, if that is allowed. */
        private boolean enter(int depth) {
            if (depth >= DEPTH) {
                fail();
                return false;
            }
            advance();
            return true;
        }

        private void part() {
            out.parts++;
            if (is(Token.LET)) {
                advance();
                let();
            } else {
                decision();
            }
        }

        private void let() {
            long code = scanner.value(token);
            if (is(Token.NAME)) {
                checkNewName(code);
            }
            expect(Token.NAME);
            expect(Token.EQUAL);
            sum(0);
            expect(Token.SEMICOLON);
            if (lets < LETS) {
                letCodes[lets] = code;
                out.add(Program.STORE, lets);
            }
            lets++;
        }

        private void checkNewName(long code) {
            if (givenName(code) >= 0 || toldName(code) >= 0) {
                blame(2);
            } else if (lets >= LETS) {
                blame(4);
            }
        }

        /** The number of the given name with a code; -1 if there is none. */
        private static int givenName(long code) {
            for (int i = 0; i < Given.ALL.length; i++) {
                if (Given.ALL[i].code == code) {
                    return i;
                }
            }
            return -1;
        }

        private int toldName(long code) {
            for (int i = 0; i < lets && i < LETS; i++) {
                if (letCodes[i] == code) {
                    return i;
                }
            }
            return -1;
        }

        private void decision() {
            boolean asks = is(Token.WHEN);
            if (asks) {
                advance();
                test(0);
            }
            if (is(Token.BID)) {
                advance();
                sum(0);
                out.add(asks ? Program.BID_IF : Program.BID, 0);
            } else {
                expect(Token.PASS);
                out.add(asks ? Program.PASS_IF : Program.PASS, 0);
            }
            expect(Token.SEMICOLON);
        }

        private void test(int depth) {
            both(depth);
            for (int i = 0; i < TOKENS && is(Token.OR); i++) {
                advance();
                both(depth);
                out.add(Program.OR, 0);
            }
        }

        private void both(int depth) {
            single(depth);
            for (int i = 0; i < TOKENS && is(Token.AND); i++) {
                advance();
                single(depth);
                out.add(Program.AND, 0);
            }
        }

        private void single(int depth) {
            if (is(Token.NOT)) {
                if (enter(depth)) {
                    single(depth + 1);
                    out.add(Program.NOT, 0);
                }
            } else if (is(Token.SQUARE_OPEN)) {
                if (enter(depth)) {
                    test(depth + 1);
                    expect(Token.SQUARE_CLOSE);
                }
            } else {
                sum(depth);
                int operation = comparison();
                sum(depth);
                out.add(operation, 0);
            }
        }

        private int comparison() {
            int operation = Program.EQUAL;
            if (is(Token.LESS)) {
                operation = Program.LESS;
            } else if (is(Token.MORE)) {
                operation = Program.MORE;
            } else if (is(Token.AT_MOST)) {
                operation = Program.AT_MOST;
            } else if (is(Token.AT_LEAST)) {
                operation = Program.AT_LEAST;
            } else if (!is(Token.EQUAL)) {
                fail();
                return operation;
            }
            advance();
            return operation;
        }

        private void sum(int depth) {
            product(depth);
            for (int i = 0; i < TOKENS && (is(Token.PLUS) || is(Token.MINUS)); i++) {
                int operation = is(Token.PLUS) ? Program.ADD : Program.SUBTRACT;
                advance();
                product(depth);
                out.add(operation, 0);
            }
        }

        private void product(int depth) {
            value(depth);
            for (int i = 0; i < TOKENS && (is(Token.TIMES) || is(Token.OVER)); i++) {
                int operation = is(Token.TIMES) ? Program.MULTIPLY : Program.DIVIDE;
                advance();
                value(depth);
                out.add(operation, 0);
            }
        }

        private void value(int depth) {
            if (is(Token.NUMBER)) {
                out.add(Program.NUMBER, (int) scanner.value(token));
                advance();
            } else if (is(Token.NAME)) {
                name();
                advance();
            } else if (is(Token.MINUS)) {
                if (enter(depth)) {
                    value(depth + 1);
                    out.add(Program.TURN, 0);
                }
            } else if (is(Token.OPEN)) {
                if (enter(depth)) {
                    sum(depth + 1);
                    expect(Token.CLOSE);
                }
            } else if (is(Token.MIN) || is(Token.MAX)) {
                int operation = is(Token.MIN) ? Program.MIN : Program.MAX;
                advance();
                pair(operation, depth);
            } else {
                fail();
            }
        }

        private void pair(int operation, int depth) {
            if (!is(Token.OPEN)) {
                fail();
            } else if (enter(depth)) {
                sum(depth + 1);
                expect(Token.COMMA);
                sum(depth + 1);
                expect(Token.CLOSE);
                out.add(operation, 0);
            }
        }

        private void name() {
            int given = givenName(scanner.value(token));
            int told = toldName(scanner.value(token));
            if (given >= 0) {
                out.add(Program.GIVEN, given);
            } else if (told >= 0) {
                out.add(Program.LOAD, told);
            } else {
                blame(3);
            }
        }
    }

    /** Reckons programs. No value can fail, so that a bid's may be reckoned even where its test doesn't hold. */
    private static final class Reckoner {
        final int[] given = new int[Given.ALL.length];
        private final int[] lets = new int[LETS];
        private final int[] stack = new int[TOKENS];
        private int top;

        /** The limit by the program, which is at most a given number; -1 for none. */
        int limitBy(Program program, int most) {
            top = 0;
            for (int i = 0; i < program.size && i < TOKENS; i++) {
                int operation = program.operations[i];
                if (operation == Program.BID || operation == Program.BID_IF) {
                    int value = pop();
                    if (operation == Program.BID || pop() != 0) {
                        return Math.min(Math.max(value, 0), most);
                    }
                } else if (operation == Program.PASS || operation == Program.PASS_IF) {
                    if (operation == Program.PASS || pop() != 0) {
                        return -1;
                    }
                } else {
                    reckon(operation, program.arguments[i]);
                }
            }
            return -1;
        }

        private void reckon(int operation, int argument) {
            switch (operation) {
                case Program.NUMBER:
                    push(argument);
                    break;
                case Program.GIVEN:
                    push(at(given, argument));
                    break;
                case Program.LOAD:
                    push(at(lets, argument));
                    break;
                case Program.STORE:
                    put(lets, argument, pop());
                    break;
                case Program.TURN:
                    push(-pop());
                    break;
                case Program.NOT:
                    push(pop() == 0 ? 1 : 0);
                    break;
                default:
                    int right = pop();
                    int left = pop();
                    push(ofTwo(operation, left, right));
                    break;
            }
        }

        private static int ofTwo(int operation, int left, int right) {
            switch (operation) {
                case Program.ADD: return left + right;
                case Program.SUBTRACT: return left - right;
                case Program.MULTIPLY: return left * right;
                case Program.DIVIDE: return right == 0 ? 0 : left / right;
                case Program.MIN: return left < right ? left : right;
                case Program.MAX: return left > right ? left : right;
                case Program.LESS: return left < right ? 1 : 0;
                case Program.MORE: return left > right ? 1 : 0;
                case Program.EQUAL: return left == right ? 1 : 0;
                case Program.AT_MOST: return left <= right ? 1 : 0;
                case Program.AT_LEAST: return left >= right ? 1 : 0;
                case Program.AND: return left & right;
                default: return left | right;
            }
        }

        private void push(int value) {
            if (top < TOKENS) {
                stack[top] = value;
                top++;
            }
        }

        private int pop() {
            if (top <= 0 || top > TOKENS) {
                return 0;
            }
            top--;
            return stack[top];
        }
    }

    /** One lot under the hammer: the limits, who bids, who would get it, and at which price. */
    private static final class Auction {
        final Program[] programs = new Program[BUYERS];
        final int[] limits = new int[BUYERS];
        int bidders;
        int winner;
        int price;
        private final Wool wool;
        private final Reckoner reckoner = new Reckoner();
        private final boolean[] bids = new boolean[BUYERS];

        Auction(Wool wool) {
            this.wool = wool;
        }

        int partsOf(int buyer) {
            Program program = programOf(buyer);
            return program == null ? -1 : program.parts;
        }

        private Program programOf(int buyer) {
            return inside(buyer, BUYERS) ? programs[buyer] : null;
        }

        int limitOf(Book book, int buyer, int lot) {
            Program program = programOf(buyer);
            if (program == null) {
                return -1;
            }
            for (int i = 0; i < Given.ALL.length; i++) {
                put(reckoner.given, i, valueOf(Given.ALL[i], book, buyer, lot));
            }
            int payable = quotient(cell(book.people, buyer, PURSE), cell(wool.lotFacts, lot, LOT_CLEAN));
            return reckoner.limitBy(program, Math.min(GREATEST_LIMIT, payable));
        }

        private int valueOf(Given name, Book book, int buyer, int lot) {
            switch (name) {
                case MICRON: return cell(wool.lotFacts, lot, LOT_MICRON);
                case LENGTH: return cell(wool.lotFacts, lot, LOT_LENGTH);
                case YIELD: return cell(wool.lotFacts, lot, LOT_YIELD);
                case WEIGHT: return cell(wool.lotFacts, lot, LOT_WEIGHT);
                case CLEAN: return cell(wool.lotFacts, lot, LOT_CLEAN);
                case BALES: return cell(wool.lotFacts, lot, LOT_BALES);
                case CLASS: return cell(wool.lotFacts, lot, LOT_CLASS);
                case INDEX: return at(book.indexes, cell(wool.lotFacts, lot, LOT_CLASS) - FIRST_CLASS);
                case NEED: return cell(book.people, buyer, NEED);
                case PURSE: return cell(book.people, buyer, PURSE);
                case BOUGHT: return cell(book.people, buyer, BOUGHT);
                case RIVALS: return rivalsOf(buyer);
                default: return lot;
            }
        }

        private int rivalsOf(int buyer) {
            int rivals = 0;
            for (int b = 0; b < BUYERS; b++) {
                if (b != buyer && programs[b] != null) {
                    rivals++;
                }
            }
            return rivals;
        }

        void takeLimits(Book book, int lot) {
            for (int b = 0; b < BUYERS; b++) {
                limits[b] = limitOf(book, b, lot);
            }
        }

        /** Finds the winner and the price by the limits that were taken; both are -1 if nobody bids. */
        void decide(Book book, int kind, int reserve, int step) {
            findBidders(book, reserve);
            winner = -1;
            price = -1;
            if (bidders == 0) {
                return;
            }
            if (kind == 0) {
                rise(reserve, step);
            } else if (kind == 1) {
                fall(reserve, step);
            } else {
                winner = strongest(-1);
                int second = strongest(winner);
                price = kind == 2 ? at(limits, winner) : second < 0 ? reserve : at(limits, second);
            }
        }

        private void findBidders(Book book, int reserve) {
            bidders = 0;
            for (int b = 0; b < BUYERS; b++) {
                bids[b] = limits[b] >= 0 && limits[b] >= reserve && speaks(book, b);
                if (bids[b]) {
                    bidders++;
                }
            }
        }

        private boolean speaks(Book book, int buyer) {
            int ring = cell(book.people, buyer, RING);
            int own = at(limits, buyer);
            for (int b = 0; b < BUYERS; b++) {
                if (book.isIn(b, ring) && (limits[b] > own || limits[b] == own && b < buyer)) {
                    return false;
                }
            }
            return true;
        }

        /** The one who bids by the greatest limit, but for one who is left out; -1 if there is none. */
        private int strongest(int leftOut) {
            int best = -1;
            for (int b = 0; b < BUYERS; b++) {
                if (b != leftOut && bids[b] && (best < 0 || limits[b] > at(limits, best))) {
                    best = b;
                }
            }
            return best;
        }

        /** The first one behind a number, and round to it, who bids with at least this limit; -1 if there is none. */
        private int firstBehind(int number, int least) {
            for (int i = 1; i <= BUYERS; i++) {
                int b = Math.floorMod(number + i, BUYERS);
                if (b != number && bids[b] && limits[b] >= least) {
                    return b;
                }
            }
            return -1;
        }

        private void rise(int reserve, int step) {
            winner = firstBehind(-1, reserve);
            price = reserve;
            for (int i = 0; i <= GREATEST_LIMIT; i++) {
                skipRounds(step);
                int next = firstBehind(winner, price + step);
                if (next < 0) {
                    return;
                }
                winner = next;
                price += step;
            }
        }

        /**
         * As long as none of those who can raise drops out, the lot goes round among them:
         * whole rounds bring it back to its holder, and need not be walked through.
         */
        private void skipRounds(int step) {
            int raisers = 0;
            int least = GREATEST_LIMIT;
            for (int b = 0; b < BUYERS; b++) {
                if (bids[b] && limits[b] >= price + step) {
                    raisers++;
                    least = Math.min(least, limits[b]);
                }
            }
            if (raisers > 1 && at(limits, winner) >= price + step) {
                int round = raisers * step;
                price += quotient(least - price, round) * round;
            }
        }

        private void fall(int reserve, int step) {
            for (int steps = 40; steps >= 0 && winner < 0; steps--) {
                price = reserve + steps * step;
                winner = firstBehind(-1, price);
            }
        }
    }

    /** Offers lots, and writes into a book what comes of it. */
    private static final class Clerk {
        private final Wool wool;
        private final Auction auction;
        private final int[] gets = new int[BUYERS];

        Clerk(Wool wool, Auction auction) {
            this.wool = wool;
            this.auction = auction;
        }

        int offerAll(Book book, int kind, int reserve, int step) {
            int sold = 0;
            for (int lot = 0; lot < wool.lots && lot < LOTS; lot++) {
                if (!book.isSold(lot) && offer(book, lot, kind, reserve, step) >= 0) {
                    sold++;
                }
            }
            return sold;
        }

        int offer(Book book, int lot, int kind, int reserve, int step) {
            if (!inside(lot, LOTS)) {
                return -1;
            }
            book.sales[lot][OFFERED]++;
            auction.takeLimits(book, lot);
            auction.decide(book, kind, reserve, step);
            if (inside(auction.winner, BUYERS)) {
                hand(book, lot, auction.winner, auction.price);
                share(book, auction.winner, auction.price, cell(wool.lotFacts, lot, LOT_CLEAN));
            }
            return auction.price;
        }

        private void hand(Book book, int lot, int buyer, int price) {
            if (!inside(lot, LOTS) || !inside(buyer, BUYERS)) {
                return;
            }
            int clean = wool.lotFacts[lot][LOT_CLEAN];
            int[] person = book.people[buyer];
            person[PURSE] -= price * clean;
            person[PAID] += price * clean;
            person[BOUGHT] += clean;
            person[BOUGHT_LOTS]++;
            person[NEED] = Math.max(0, person[NEED] - clean);
            book.sales[lot][SOLD_TO] = buyer;
            book.sales[lot][SOLD_AT] = price;
            payGrowers(book, lot, price);
            followIndex(book, wool.lotFacts[lot][LOT_CLASS] - FIRST_CLASS, price);
        }

        private void payGrowers(Book book, int lot, int price) {
            int bales = cell(wool.lotFacts, lot, LOT_BALES);
            for (int place = 0; place < bales && place < BALES; place++) {
                int bale = wool.baleOf(lot, place);
                int grower = cell(wool.baleFacts, bale, BALE_GROWER);
                int coins = price * cell(wool.baleFacts, bale, BALE_CLEAN) * 95 / 100;
                put(book.coins, grower, at(book.coins, grower) + coins);
            }
        }

        private static void followIndex(Book book, int place, int price) {
            int old = at(book.indexes, place);
            put(book.indexes, place, old == 0 ? price : (3 * old + price) / 4);
        }

        private void share(Book book, int buyer, int price, int clean) {
            int ring = cell(book.people, buyer, RING);
            int members = book.members(ring);
            if (!inside(buyer, BUYERS) || !inside(ring, RINGS) || members < 2) {
                return;
            }
            book.rings[ring][RING_LOTS]++;
            int part = quotient(saving(book, buyer, price, clean), members);
            for (int b = 0; b < BUYERS; b++) {
                gets[b] = 0;
                if (b != buyer && book.isIn(b, ring)) {
                    gets[b] = Math.min(part, book.people[buyer][PURSE]);
                    book.people[buyer][PURSE] -= gets[b];
                    book.people[b][PURSE] += gets[b];
                    book.people[b][GOT] += gets[b];
                    book.rings[ring][RING_SHARED] += gets[b];
                }
            }
            for (int b = 0; b < BUYERS; b++) {
                if (b != buyer && book.isIn(b, ring)) {
                    int due = quotient((auction.limits[b] - price) * clean, 2 * members);
                    brood(book.people[b], auction.limits[b] > price && gets[b] < due);
                }
            }
            leaveInAnger(book, ring);
        }

        private int saving(Book book, int buyer, int price, int clean) {
            int greatest = -1;
            for (int b = 0; b < BUYERS; b++) {
                if (b != buyer && book.isIn(b, cell(book.people, buyer, RING))) {
                    greatest = Math.max(greatest, auction.limits[b]);
                }
            }
            return Math.max(0, (greatest - price) * clean);
        }

        private static void brood(int[] person, boolean wronged) {
            int grudge = at(person, GRUDGE);
            put(person, GRUDGE, wronged ? grudge + 1 : Math.max(0, grudge - 1));
        }

        private static void leaveInAnger(Book book, int ring) {
            for (int b = 0; b < BUYERS; b++) {
                if (book.isIn(b, ring) && book.people[b][GRUDGE] >= 3) {
                    book.people[b][RING] = -1;
                    book.people[b][GRUDGE] = 0;
                    book.leavers++;
                }
            }
        }
    }

    /** The paper that lists are written on. */
    private static final class Paper {
        final byte[] bytes = new byte[PAPER];
        int size;

        void write(int sign) {
            if (size < PAPER) {
                bytes[size] = (byte) sign;
                size++;
            }
        }

        /** Writes a number of at most four digits: no lot, bale, buyer or price has more. */
        void writeNumber(int number) {
            for (int unit = 1000; unit > 0; unit /= 10) {
                if (number >= unit || unit == 1) {
                    write('0' + number / unit % 10);
                }
            }
        }
    }
}
