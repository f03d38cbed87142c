/**
 * Hostile packs: a small form of packed bytes, a reader that passes no bound and tells the first bad place,
 * families of packs made by a seed, and packs made less as long as they are refused for the same.
 * The words in capitals are those of the document.
 */
public final class BombFamilies {
    public static final int NONE = -1, OUTSIDE = -2, STATE = -3, ROOM = -4;

    private static final int TAPE_LIMIT = 1200, MOST_LIMIT = 4000, STEPS_LIMIT = 20000, DEEP_LIMIT = 8;
    private static final int FAMILY_LIMIT = 9, SIZE_LIMIT = 60, FEED_LIMIT = 8;
    /** The smallest ITEM has two bytes. */
    private static final int ITEM_LIMIT = TAPE_LIMIT / 2;

    private static final int MARK_ONE = 80, MARK_TWO = 75, MARK_BYTES = 2;
    private static final int END = 0, STORED = 1, RUN = 2, COPY = 3, NEST = 4, NOTE = 5, AGAIN = 6, CODED = 7;

    private static final int BAD_MARK = 1, BAD_KIND = 2, LACKS = 3, BAD_DISTANCE = 4, BAD_FORMER = 5,
        BAD_TABLE = 6, NO_CODE = 7, BITS_LEFT = 8, BAD_CHECK = 9, BYTES_BEHIND = 10, TOO_MANY = 11,
        TOO_DEAR = 12, TOO_DEEP = 13;

    private final Bytes tape;
    private final Maker maker;
    private final Reader reader;
    /** How long the ITEMS are that shrink() tries: the reader's own rows change with each READ. */
    private final int[] tried;

    public BombFamilies(long seed) {
        tape = new Bytes(TAPE_LIMIT, TAPE_LIMIT);
        maker = new Maker(tape, seed);
        reader = new Reader(tape);
        tried = new int[ITEM_LIMIT];
    }

    public int feed(int n, long w) {
        if (n < 1 || n > FEED_LIMIT) {
            return OUTSIDE;
        }
        if (tape.size + n > TAPE_LIMIT) {
            return ROOM;
        }
        for (int i = n - 1; i >= 0; i--) {
            tape.append((int) (w >>> (8 * i)) & 255);
        }
        return tape.size;
    }

    public int cut(int n) {
        if (n < 0 || n > tape.size) {
            return OUTSIDE;
        }
        int gone = tape.size - n;
        tape.keepFirst(n);
        return gone;
    }

    public int alter(int i, int b) {
        if (i < 0 || i >= tape.size || b < 0 || b > 255) {
            return OUTSIDE;
        }
        int was = tape.get(i);
        tape.put(i, b);
        return was;
    }

    public int at(int i) {
        return tape.get(i);
    }

    public int mend() {
        if (tape.size == 0) {
            return STATE;
        }
        int last = tape.size - 1;
        int check = tape.checkOf(0, last);
        tape.put(last, check);
        return check;
    }

    public int draw(int family, int size) {
        if (family < 0 || family > FAMILY_LIMIT || size < 0 || size > SIZE_LIMIT) {
            return OUTSIDE;
        }
        maker.make(family, size);
        return tape.size;
    }

    public int open(int most, int steps, int deep) {
        if (!areBounds(most, steps, deep)) {
            return OUTSIDE;
        }
        int fault = reader.read(most, steps, deep);
        return fault == 0 ? reader.out.size : -10 - fault;
    }

    public int place() {
        return reader.faultPlace;
    }

    public int out(int i) {
        return reader.out.get(i);
    }

    public int item(int i, int what) {
        return i == NONE ? reader.items.size : reader.items.get(i, what);
    }

    public int shrink(int most, int steps, int deep) {
        if (!areBounds(most, steps, deep)) {
            return OUTSIDE;
        }
        int fault = reader.read(most, steps, deep);
        if (fault == 0) {
            return STATE;
        }
        int items = reader.items.copyLengths(tried);
        int from = MARK_BYTES;
        for (int i = 0; i < items && i < tried.length; i++) {
            tape.takeOut(from, tried[i]);
            if (reader.read(most, steps, deep) != fault) {
                tape.putBack(from);
                from += tried[i];
            }
        }
        reader.read(most, steps, deep);
        return tape.size;
    }

    public int count(int what) {
        switch (what) {
            case 0: return tape.size;
            case 1: return reader.out.size;
            case 2: return reader.cost;
            case 3: return reader.deepest;
            case 4: return reader.begun;
            case 5: return reader.fault;
            case 6: return reader.reads;
            default: return NONE;
        }
    }

    private static boolean areBounds(int most, int steps, int deep) {
        return most >= 0 && most <= MOST_LIMIT && steps >= 0 && steps <= STEPS_LIMIT
            && deep >= 0 && deep <= DEEP_LIMIT;
    }

    /** A row of bytes (0 .. 255) up to a limit, used for the TAPE and for OUT. */
    private static final class Bytes {
        private final int[] row;
        private int size;
        /** What takeOut() took last, for putBack(). */
        private final int[] taken;
        private int takenSize;

        Bytes(int limit, int takenLimit) {
            row = new int[Math.max(0, limit)];
            taken = new int[Math.max(0, takenLimit)];
        }

        int get(int i) {
            return i >= 0 && i < size ? row[i] : NONE;
        }

        void put(int i, int b) {
            if (i >= 0 && i < size) {
                row[i] = b;
            }
        }

        void append(int b) {
            if (size < row.length) {
                row[size] = b;
                size++;
            }
        }

        void keepFirst(int n) {
            size = Math.max(0, Math.min(n, size));
        }

        int checkOf(int from, int end) {
            int sum = 0;
            for (int i = Math.max(0, from); i < end && i < size; i++) {
                sum += row[i];
            }
            return sum & 255;
        }

        void takeOut(int from, int n) {
            takenSize = 0;
            if (from < 0 || n < 0 || n > taken.length || n > size - from) {
                return;
            }
            System.arraycopy(row, from, taken, 0, n);
            System.arraycopy(row, from + n, row, from, size - from - n);
            takenSize = n;
            size -= n;
        }

        void putBack(int from) {
            if (from < 0 || from > size || takenSize > row.length - size) {
                return;
            }
            System.arraycopy(row, from, row, from + takenSize, size - from);
            System.arraycopy(taken, 0, row, from, takenSize);
            size += takenSize;
            takenSize = 0;
        }
    }

    /** THE SEED, and the FAMILIES that it makes on the TAPE. */
    private static final class Maker {
        private final Bytes tape;
        private long seed;

        Maker(Bytes tape, long seed) {
            this.tape = tape;
            this.seed = seed;
        }

        void make(int family, int size) {
            tape.keepFirst(0);
            switch (family) {
                case 0: makeLies(size); break;
                case 1: makeRuns(size); break;
                case 2: makeOverlaps(size); break;
                case 3: makeDeep(size); break;
                case 4: makeEmpty(size); break;
                case 5: makeAgains(size); break;
                case 6: makeTables(size); break;
                case 7: makeDrawn(size); cutEnd(); break;
                case 8: makeDrawn(size); spoilCheck(); break;
                default: makeDrawn(size); break;
            }
        }

        private int next(int n) {
            seed = seed * 6364136223846793005L + 1442695040888963407L;
            return n < 1 ? 0 : (int) ((seed >>> 31) % n);
        }

        private void append(int a, int b) {
            tape.append(a);
            tape.append(b);
        }

        private void append(int a, int b, int c) {
            tape.append(a);
            tape.append(b);
            tape.append(c);
        }

        private void appendDrawn(int n) {
            for (int i = 0; i < n; i++) {
                tape.append(next(256));
            }
        }

        private void appendEnd(int from) {
            tape.append(END);
            tape.append(tape.checkOf(from, tape.size));
        }

        private void makeLies(int size) {
            append(MARK_ONE, MARK_TWO);
            append(STORED, 255);
            appendDrawn(size);
            appendEnd(0);
        }

        private void makeRuns(int size) {
            append(MARK_ONE, MARK_TWO);
            for (int i = 0; i < size; i++) {
                append(RUN, 255, next(256));
            }
            appendEnd(0);
        }

        private void makeOverlaps(int size) {
            append(MARK_ONE, MARK_TWO);
            append(STORED, 1, next(256));
            for (int i = 0; i < size; i++) {
                append(COPY, 1, 255);
            }
            appendEnd(0);
        }

        /** A PACK around another has 5 bytes ahead of it and 2 behind it; the inmost one has 7. */
        private void makeDeep(int size) {
            for (int inside = size - 1; inside >= 0; inside--) {
                int length = 7 + 7 * inside;
                append(MARK_ONE, MARK_TWO);
                append(NEST, length >> 8, length & 255);
            }
            append(MARK_ONE, MARK_TWO);
            append(STORED, 1, next(256));
            for (int around = size; around >= 0; around--) {
                appendEnd(5 * around);
            }
        }

        private void makeEmpty(int size) {
            append(MARK_ONE, MARK_TWO);
            appendEmptyNotes(size);
            appendEnd(0);
        }

        private void appendEmptyNotes(int n) {
            for (int i = 0; i < n; i++) {
                append(NOTE, 0);
            }
        }

        private void makeAgains(int size) {
            append(MARK_ONE, MARK_TWO);
            append(RUN, 1, next(256));
            for (int k = 0; k < size; k++) {
                append(AGAIN, k);
            }
            appendEnd(0);
        }

        private void makeTables(int size) {
            append(MARK_ONE, MARK_TWO);
            append(CODED, 8);
            for (int symbol = 0; symbol < 8; symbol++) {
                tape.append(symbol);
            }
            for (int i = 0; i < 8; i++) {
                tape.append(next(8));
            }
            tape.append(0);
            appendEmptyNotes(size);
            appendEnd(0);
        }

        private void cutEnd() {
            int gone = 1 + next(4);
            tape.keepFirst(tape.size - gone);
        }

        private void spoilCheck() {
            int last = tape.size - 1;
            tape.put(last, (tape.get(last) + 1) & 255);
        }

        private void makeDrawn(int size) {
            append(MARK_ONE, MARK_TWO);
            for (int items = 0; items < size; items++) {
                appendDrawnItem(items);
            }
            appendEnd(0);
        }

        private void appendDrawnItem(int items) {
            switch (next(6)) {
                case 0: appendCounted(STORED, 1 + next(6)); break;
                case 1: append(RUN, next(20), next(256)); break;
                case 2: append(COPY, 1 + next(4), next(12)); break;
                case 3: appendCounted(NOTE, next(4)); break;
                case 4: appendDrawnAgain(items); break;
                default: appendDrawnNest(); break;
            }
        }

        private void appendCounted(int kind, int n) {
            append(kind, n);
            appendDrawn(n);
        }

        private void appendDrawnAgain(int items) {
            if (items > 0) {
                append(AGAIN, next(items));
            } else {
                append(STORED, 1, next(256));
            }
        }

        /** The PACK in it has 6 bytes besides the n that are drawn. */
        private void appendDrawnNest() {
            int n = next(5);
            append(NEST, 0, 6 + n);
            int from = tape.size;
            append(MARK_ONE, MARK_TWO);
            appendCounted(STORED, n);
            appendEnd(from);
        }
    }

    /** The ITEMS of the PACK on the TAPE that were READ to their ends. */
    private static final class Items {
        private final int[] kinds, places, came, costs, lengths;
        private int size;

        Items() {
            kinds = new int[ITEM_LIMIT];
            places = new int[ITEM_LIMIT];
            came = new int[ITEM_LIMIT];
            costs = new int[ITEM_LIMIT];
            lengths = new int[ITEM_LIMIT];
        }

        void append(int kind, int place, int come, int cost, int length) {
            if (size < ITEM_LIMIT) {
                kinds[size] = kind;
                places[size] = place;
                came[size] = come;
                costs[size] = cost;
                lengths[size] = length;
                size++;
            }
        }

        int get(int i, int what) {
            if (i < 0 || i >= size) {
                return NONE;
            }
            switch (what) {
                case 0: return kinds[i];
                case 1: return places[i];
                case 2: return came[i];
                case 3: return costs[i];
                default: return NONE;
            }
        }

        int copyLengths(int[] to) {
            int n = Math.min(size, to.length);
            System.arraycopy(lengths, 0, to, 0, n);
            return n;
        }
    }

    /** A PACK that is being READ: its place, how many bytes came ahead of it, and which of the item ends are its. */
    private static final class Pack {
        private int from, end, cameAhead, firstItem, items;

        void begin(int from, int end, int cameAhead, int firstItem) {
            this.from = from;
            this.end = end;
            this.cameAhead = cameAhead;
            this.firstItem = firstItem;
            this.items = 0;
        }
    }

    /** THE TABLE of a CODED ITEM. */
    private static final class Table {
        private static final int WIDEST = 8, LONGEST = 7;
        private final int[] symbols, lengths, codes;
        private int width, longest;

        Table() {
            symbols = new int[WIDEST];
            lengths = new int[WIDEST];
            codes = new int[WIDEST];
        }

        void begin(int m) {
            width = Math.max(0, Math.min(m, WIDEST));
            longest = 0;
        }

        void putSymbol(int i, int symbol) {
            if (i >= 0 && i < width) {
                symbols[i] = symbol;
            }
        }

        void putLength(int i, int length) {
            if (i >= 0 && i < width) {
                lengths[i] = length;
                longest = Math.max(longest, length);
            }
        }

        /** The sum is taken in 128ths, as the longest code has 7 bits. */
        boolean isGood() {
            int sum = 0;
            int used = 0;
            for (int i = 0; i < width; i++) {
                if (lengths[i] > 0) {
                    sum += 128 >> lengths[i];
                    used++;
                }
            }
            return sum == 128 || used == 1 && longest == 1;
        }

        void makeCodes() {
            int code = 0;
            for (int length = 1; length <= longest; length++) {
                code = 2 * code;
                for (int i = 0; i < width; i++) {
                    if (lengths[i] == length) {
                        codes[i] = code;
                        code++;
                    }
                }
            }
        }

        int symbolOf(int code, int length) {
            for (int i = 0; i < width; i++) {
                if (lengths[i] == length && codes[i] == code) {
                    return symbols[i];
                }
            }
            return NONE;
        }
    }

    /** READS the TAPE and keeps what the latest READ found. */
    private static final class Reader {
        private static final int PACK_COST = 4, NEST_COST = 3;
        private final Bytes tape, out;
        private final Items items;
        private final Table table;
        /** One for each depth, so that a READ makes no objects. */
        private final Pack[] packs;
        /** How many bytes OUT had behind each ITEM of the PACKS that are being READ, the inner behind the outer. */
        private final int[] itemEnds;
        private int most, steps, deep;
        private int spot, bitByte, bitsLeft;
        private int cost, deepest, begun, fault, faultPlace, reads;

        Reader(Bytes tape) {
            this.tape = tape;
            out = new Bytes(MOST_LIMIT, 0);
            items = new Items();
            table = new Table();
            packs = new Pack[DEEP_LIMIT + 1];
            for (int i = 0; i < packs.length; i++) {
                packs[i] = new Pack();
            }
            itemEnds = new int[ITEM_LIMIT];
            faultPlace = NONE;
        }

        /** The FAULT; 0 if there is none. */
        int read(int most, int steps, int deep) {
            this.most = most;
            this.steps = steps;
            this.deep = deep;
            cost = 0;
            deepest = 0;
            begun = 0;
            fault = 0;
            faultPlace = NONE;
            items.size = 0;
            out.keepFirst(0);
            reads++;
            readPack(0, tape.size, 0, 0);
            return fault;
        }

        private void fail(int number, int place) {
            if (fault == 0) {
                fault = number;
                faultPlace = place;
            }
        }

        /** The next byte; NONE, and a FAULT, if the PACK ends there. */
        private int next(int end) {
            if (spot >= end) {
                fail(LACKS, end);
                return NONE;
            }
            int b = tape.get(spot);
            spot++;
            return b;
        }

        private boolean hasBytes(int n, int end) {
            if (n > end - spot) {
                fail(LACKS, end);
                return false;
            }
            return true;
        }

        private boolean canPay(int place, int come, int price) {
            if (out.size + come > most) {
                fail(TOO_MANY, place);
                return false;
            }
            if (cost + price > steps) {
                fail(TOO_DEAR, place);
                return false;
            }
            return true;
        }

        private boolean pay(int place, int come, int price) {
            if (!canPay(place, come, price)) {
                return false;
            }
            cost += price;
            return true;
        }

        private void readPack(int from, int end, int depth, int firstItem) {
            Pack pack = depth < 0 || depth >= packs.length ? null : packs[depth];
            if (pack == null) {
                fail(TOO_DEEP, from);
                return;
            }
            if (!pay(from, 0, PACK_COST)) {
                return;
            }
            begun++;
            deepest = Math.max(deepest, depth);
            pack.begin(from, end, out.size, firstItem);
            spot = from;
            readMark(MARK_ONE, end);
            readMark(MARK_TWO, end);
            // each round takes a byte or ends with a FAULT
            for (int i = 0; i <= TAPE_LIMIT && fault == 0; i++) {
                int place = spot;
                int kind = next(end);
                if (kind == END) {
                    readCheck(pack);
                    return;
                }
                if (kind != NONE) {
                    readItem(kind, place, pack, depth);
                }
            }
        }

        private void readMark(int mark, int end) {
            if (fault != 0) {
                return;
            }
            int b = next(end);
            if (b != NONE && b != mark) {
                fail(BAD_MARK, spot - 1);
            }
        }

        private void readCheck(Pack pack) {
            int place = spot;
            int check = next(pack.end);
            if (check == NONE) {
                return;
            }
            if (check != tape.checkOf(pack.from, place)) {
                fail(BAD_CHECK, place);
            } else if (spot < pack.end) {
                fail(BYTES_BEHIND, spot);
            }
        }

        private void readItem(int kind, int place, Pack pack, int depth) {
            int cameAhead = out.size;
            int costAhead = cost;
            switch (kind) {
                case STORED: readStored(place, pack.end); break;
                case RUN: readRun(place, pack.end); break;
                case COPY: readCopy(place, pack); break;
                case NEST: readNest(place, pack, depth); break;
                case NOTE: readNote(place, pack.end); break;
                case AGAIN: readAgain(place, pack); break;
                case CODED: readBits(readTable(place, pack.end), pack.end); break;
                default: fail(BAD_KIND, place); break;
            }
            if (fault != 0) {
                return;
            }
            int end = pack.firstItem + pack.items;
            if (end >= 0 && end < itemEnds.length) {
                itemEnds[end] = out.size;
            }
            pack.items++;
            if (depth == 0) {
                items.append(kind, place, out.size - cameAhead, cost - costAhead, spot - place);
            }
        }

        private void readStored(int place, int end) {
            int n = next(end);
            if (n == NONE || !hasBytes(n, end) || !pay(place, n, 2 + n + n)) {
                return;
            }
            for (int i = 0; i < n; i++) {
                out.append(tape.get(spot + i));
            }
            spot += n;
        }

        private void readRun(int place, int end) {
            int n = next(end);
            int b = next(end);
            if (n == NONE || b == NONE || !pay(place, n, 3 + n)) {
                return;
            }
            for (int i = 0; i < n; i++) {
                out.append(b);
            }
        }

        private void readCopy(int place, Pack pack) {
            int d = next(pack.end);
            if (d == NONE) {
                return;
            }
            if (d == 0 || d > out.size - pack.cameAhead) {
                fail(BAD_DISTANCE, spot - 1);
                return;
            }
            int n = next(pack.end);
            if (n == NONE || !pay(place, n, 3 + n)) {
                return;
            }
            // byte by byte, as a COPY may run into what it brings itself
            for (int i = 0; i < n; i++) {
                out.append(out.get(out.size - d));
            }
        }

        private void readNest(int place, Pack pack, int depth) {
            int h = next(pack.end);
            int l = next(pack.end);
            if (h == NONE || l == NONE) {
                return;
            }
            int length = 256 * h + l;
            if (!hasBytes(length, pack.end) || !canPay(place, 0, NEST_COST)) {
                return;
            }
            // told behind the STEPS, but a NEST that is refused for it COSTS nothing
            if (depth + 1 > deep) {
                fail(TOO_DEEP, place);
                return;
            }
            cost += NEST_COST;
            readPack(spot, spot + length, depth + 1, pack.firstItem + pack.items);
        }

        private void readNote(int place, int end) {
            int n = next(end);
            if (n != NONE && hasBytes(n, end) && pay(place, 0, 2 + n)) {
                spot += n;
            }
        }

        private void readAgain(int place, Pack pack) {
            int k = next(pack.end);
            if (k == NONE) {
                return;
            }
            int former = pack.firstItem + k;
            if (k >= pack.items || former < 0 || former >= itemEnds.length) {
                fail(BAD_FORMER, spot - 1);
                return;
            }
            int n = itemEnds[former] - pack.cameAhead;
            if (!pay(place, n, 2 + n)) {
                return;
            }
            for (int i = 0; i < n; i++) {
                out.append(out.get(pack.cameAhead + i));
            }
        }

        /** A CODED ITEM up to its bits: how many SYMBOLS they hold; NONE with a FAULT. */
        private int readTable(int place, int end) {
            int m = next(end);
            if (m == NONE) {
                return NONE;
            }
            if (m < 1 || m > Table.WIDEST) {
                fail(BAD_TABLE, spot - 1);
                return NONE;
            }
            table.begin(m);
            for (int i = 0; i < m; i++) {
                table.putSymbol(i, next(end));
            }
            int firstLength = spot;
            for (int i = 0; i < m && fault == 0; i++) {
                int length = next(end);
                if (length > Table.LONGEST) {
                    fail(BAD_TABLE, spot - 1);
                }
                table.putLength(i, length);
            }
            if (fault == 0 && !table.isGood()) {
                fail(BAD_TABLE, firstLength);
            }
            if (fault != 0) {
                return NONE;
            }
            table.makeCodes();
            int n = next(end);
            return n != NONE && pay(place, n, 3 + 2 * m + 2 * n) ? n : NONE;
        }

        private void readBits(int n, int end) {
            bitByte = 0;
            bitsLeft = 0;
            for (int i = 0; i < n; i++) {
                int symbol = nextSymbol(end);
                if (symbol == NONE) {
                    return;
                }
                out.append(symbol);
            }
            if ((bitByte & ((1 << bitsLeft) - 1)) != 0) {
                fail(BITS_LEFT, spot - 1);
            }
        }

        /** NONE with a FAULT. */
        private int nextSymbol(int end) {
            int begins = bitsLeft > 0 ? spot - 1 : spot;
            int code = 0;
            for (int length = 1; length <= table.longest; length++) {
                if (bitsLeft == 0) {
                    bitByte = next(end);
                    if (bitByte == NONE) {
                        return NONE;
                    }
                    bitsLeft = 8;
                }
                bitsLeft--;
                code = 2 * code + (bitByte >> bitsLeft & 1);
                int symbol = table.symbolOf(code, length);
                if (symbol != NONE) {
                    return symbol;
                }
            }
            fail(NO_CODE, begins);
            return NONE;
        }
    }
}
