/** Terms 1, what a PACK and its ITEMS are: each sentence that names an edge has a test of its own. */
public final class PackEdgeTest {
    private static final Due DUE = new Due();
    private static final int NONE = -1;
    private static final int[] WIDE = Due.bounds(4000, 20000, 8);

    public static void main(String[] args) {
        packWithoutItems();
        checkIsTheLowestEightBits();
        checkIsOfItsOwnPack();
        storedFromNoneToAll();
        runFromNoneToAll();
        copyFromNoneToAll();
        copyDistanceIsOneOrMore();
        copyDistanceIsNotAboveWhatCame();
        copyDistanceCountsAsTheItemBegins();
        copyDistanceCountsByThisPack();
        nestLengthIsOfTwoBytes();
        nestIsNotBelowAPack();
        noteFromNoneToAll();
        againIsOfAFormerOne();
        againIsUpToTheEndOfThatItem();
        againCountsItemsOfThisPack();
        codedHasOneToEightSymbols();
        codedHasLengthsFromNoneToSeven();
        tableSumIsOne();
        tableOfJustOne();
        codesByLengthThenInOrder();
        eachCodedHasItsTable();
        bitsAreTheHighestFirst();
        leftBitsAreNone();
        withoutSymbolsThereAreNoBits();
        outIsOneBehindTheOther();
        DUE.end();
    }

    private static int[] ints(int... all) {
        return all;
    }

    private static void good(String name, int[] items, int cost, int... out) {
        DUE.opens(name, Due.pack(items), WIDE, out.length, NONE, cost, out);
    }

    private static void bad(String name, int[] tape, int fault, int place, int cost, int... out) {
        DUE.opens(name, tape, WIDE, -10 - fault, place, cost, out);
    }

    /** "80, 75, ITEMS, 0, CHECK": there may be no ITEMS. */
    private static void packWithoutItems() {
        Calls x = DUE.opens("no ITEMS", ints(80, 75, 0, 155), WIDE, 0, NONE, 4);
        DUE.is("no ITEMS: how many", 0, x.item(NONE, 0));
        DUE.is("no ITEMS: PACKS", 1, x.count(4));
    }

    /** "CHECK: the sum of all its bytes ahead, its lowest 8 bits": it comes around at 256, and at 512. */
    private static void checkIsTheLowestEightBits() {
        DUE.opens("sum 254", ints(80, 75, 5, 1, 93, 0, 254), WIDE, 0, NONE, 7);
        DUE.opens("sum 255", ints(80, 75, 5, 1, 94, 0, 255), WIDE, 0, NONE, 7);
        DUE.opens("sum 256", ints(80, 75, 5, 1, 95, 0, 0), WIDE, 0, NONE, 7);
        DUE.opens("sum 257", ints(80, 75, 5, 1, 96, 0, 1), WIDE, 0, NONE, 7);
        DUE.opens("sum 511", ints(80, 75, 5, 2, 175, 174, 0, 255), WIDE, 0, NONE, 8);
        DUE.opens("sum 512", ints(80, 75, 5, 2, 175, 175, 0, 0), WIDE, 0, NONE, 8);
        bad("sum 255, one less", ints(80, 75, 5, 1, 94, 0, 254), 9, 6, 7);
        bad("sum 255, one more", ints(80, 75, 5, 1, 94, 0, 0), 9, 6, 7);
        bad("sum 256, one less", ints(80, 75, 5, 1, 95, 0, 255), 9, 6, 7);
        bad("sum 256, one more", ints(80, 75, 5, 1, 95, 0, 1), 9, 6, 7);
        for (int check = 0; check < 256; check++) {
            Calls x = Due.taped(80, 75, 0, check);
            DUE.is("CHECK " + check + " of 155", check == 155 ? 0 : -19, x.open(0, 4, 0));
        }
        int[] high = Due.join(ints(80, 75), Due.times(4, Due.join(ints(5, 255), Due.times(255, 255))), ints(0));
        int sum = 80 + 75 + 4 * (5 + 255 + 255 * 255);
        DUE.opens("a high sum", Due.join(high, ints(sum % 256)), WIDE, 0, NONE, 4 + 4 * 257);
    }

    /** "the sum of all its bytes ahead": those of this PACK, not of one around it, but with those of one in it. */
    private static void checkIsOfItsOwnPack() {
        int[] tape = {80, 75, 5, 1, 9, 4, 0, 7, 80, 75, 5, 1, 7, 0, 168, 0, 0};
        tape[16] = (80 + 75 + 5 + 1 + 9 + 4 + 7 + 80 + 75 + 5 + 1 + 7 + 168) % 256;
        DUE.opens("two CHECKS", tape, WIDE, 0, NONE, 4 + 3 + 3 + 4 + 3);
        int[] summed = Due.with(tape, 14, (80 + 75 + 5 + 1 + 9 + 4 + 7 + 80 + 75 + 5 + 1 + 7) % 256);
        bad("the inner CHECK with the bytes around it", summed, 9, 14, 4 + 3 + 3 + 4 + 3);
        bad("the outer CHECK without the PACK in it", Due.with(tape, 16, 80 + 75 + 5 + 1 + 9 + 4 + 7), 9, 16, 17);
    }

    /** "1 STORED: n, n bytes: these come." */
    private static void storedFromNoneToAll() {
        good("STORED 0", ints(1, 0), 4 + 2);
        good("STORED 1", ints(1, 1, 0), 4 + 3 + 1, 0);
        good("STORED, bytes that begin a PACK or end it", ints(1, 5, 80, 75, 0, 155, 255), 4 + 7 + 5, 80, 75, 0, 155, 255);
        int[] all = new int[255];
        for (int i = 0; i < all.length; i++) {
            all[i] = 255 - i;
        }
        good("STORED 255", Due.join(ints(1, 255), all), 4 + 257 + 255, all);
    }

    /** "2 RUN: n, a byte: it comes n times." */
    private static void runFromNoneToAll() {
        good("RUN 0", ints(2, 0, 9), 4 + 3);
        good("RUN 1", ints(2, 1, 255), 4 + 3 + 1, 255);
        good("RUN of 0s", ints(2, 2, 0), 4 + 3 + 2, 0, 0);
        good("RUN 255", ints(2, 255, 3), 4 + 3 + 255, Due.times(255, 3));
    }

    /** "3 COPY: d, n: n times the byte comes that came d ones before" */
    private static void copyFromNoneToAll() {
        good("COPY 0", ints(1, 2, 5, 6, 3, 2, 0), 4 + 6 + 3, 5, 6);
        good("COPY 1", ints(1, 2, 5, 6, 3, 2, 1), 4 + 6 + 4, 5, 6, 5);
        good("COPY as many as d", ints(1, 2, 5, 6, 3, 2, 2), 4 + 6 + 5, 5, 6, 5, 6);
        good("COPY one more than d", ints(1, 2, 5, 6, 3, 2, 3), 4 + 6 + 6, 5, 6, 5, 6, 5);
        good("COPY 255", ints(1, 1, 5, 3, 1, 255), 4 + 4 + 258, Due.times(256, 5));
    }

    /** "(d 1 or more": 0 is refused, also where nothing would come. */
    private static void copyDistanceIsOneOrMore() {
        good("d 1", ints(1, 2, 5, 6, 3, 1, 1), 4 + 6 + 4, 5, 6, 6);
        bad("d 0", Due.pack(1, 2, 5, 6, 3, 0, 1), 4, 7, 4 + 6, 5, 6);
        bad("d 0, n 0", Due.pack(1, 2, 5, 6, 3, 0, 0), 4, 7, 4 + 6, 5, 6);
        bad("d 0 as the first ITEM", Due.pack(3, 0, 0), 4, 3, 4);
    }

    /** "and not above how many came" */
    private static void copyDistanceIsNotAboveWhatCame() {
        good("d 2 of 2", ints(2, 2, 5, 3, 2, 0), 4 + 5 + 3, 5, 5);
        bad("d 3 of 2", Due.pack(2, 2, 5, 3, 3, 0), 4, 6, 4 + 5, 5, 5);
        bad("d 1 of none", Due.pack(3, 1, 0), 4, 3, 4);
        bad("d 1 behind ITEMS that bring nothing", Due.pack(5, 1, 9, 1, 0, 2, 0, 9, 3, 1, 0), 4, 11, 4 + 3 + 2 + 3);
        good("d 255 of 255", ints(2, 255, 5, 3, 255, 0), 4 + 258 + 3, Due.times(255, 5));
        bad("d 255 of 254", Due.pack(2, 254, 5, 3, 255, 0), 4, 6, 4 + 257, Due.times(254, 5));
        good("d 255 of 256", ints(1, 1, 4, 2, 255, 5, 3, 255, 1), 4 + 4 + 258 + 4,
            Due.join(ints(4), Due.times(256, 5)));
    }

    /** "up to there, as the ITEM begins": what the COPY itself brings doesn't count. */
    private static void copyDistanceCountsAsTheItemBegins() {
        bad("d 2, that it would bring itself", Due.pack(2, 1, 5, 3, 2, 9), 4, 6, 4 + 4, 5);
        good("d 2 behind a COPY that brought one", ints(2, 1, 5, 3, 1, 1, 3, 2, 1), 4 + 4 + 4 + 4, 5, 5, 5);
    }

    /** "by this PACK": not what came ahead of it, but what came by a PACK in it. */
    private static void copyDistanceCountsByThisPack() {
        int[] first = Due.pack(Due.join(ints(2, 2, 5), Due.nest(Due.pack(3, 1, 1))));
        bad("d 1 at the begin of a NEST", first, 4, 11, 4 + 5 + 3 + 4, 5, 5);
        int[] above = Due.pack(Due.join(ints(2, 2, 5), Due.nest(Due.pack(2, 1, 6, 3, 2, 1))));
        bad("d 2 in a NEST that brought 1", above, 4, 14, 4 + 5 + 3 + 4 + 4, 5, 5, 6);
        good("d 1 in a NEST that brought 1", Due.join(ints(2, 2, 5), Due.nest(Due.pack(2, 1, 6, 3, 1, 1))),
            4 + 5 + 3 + 4 + 4 + 4, 5, 5, 6, 6);
        int[] inner = Due.nest(Due.pack(1, 2, 7, 8));
        good("d 3 of 1 and 2 of a NEST", Due.join(ints(1, 1, 6), inner, ints(3, 3, 1)), 4 + 4 + 3 + 4 + 6 + 4, 6, 7, 8, 6);
        bad("d 4 of 1 and 2 of a NEST", Due.pack(Due.join(ints(1, 1, 6), inner, ints(3, 4, 1))), 4, 17, 21, 6, 7, 8);
    }

    /** A good PACK of n bytes (more than 5), of NOTES. */
    private static int[] packOf(int n) {
        int[] items = {};
        for (int left = n - 4; left > 0; left = n - 4 - items.length) {
            int next = Math.min(left, 257);
            next = left - next == 1 ? next - 1 : next;
            items = Due.join(items, ints(5, next - 2), Due.times(next - 2, 9));
        }
        return Due.pack(items);
    }

    /** "4 NEST: h, l: a PACK of 256 h + l bytes" */
    private static void nestLengthIsOfTwoBytes() {
        for (int n : ints(6, 254, 255, 256, 257, 511, 512, 513, 1023, 1024, 1193)) {
            int[] inner = packOf(n);
            DUE.is("a PACK of " + n, n, inner.length);
            int[] tape = Due.pack(Due.join(ints(4, n / 256, n % 256), inner));
            Calls x = Due.taped(tape);
            DUE.is("NEST of " + n, 0, x.open(0, 20000, 1));
            DUE.is("NEST of " + n + ", COST", 4 + 3 + 4 + n - 4, x.count(2));
            DUE.is("NEST of " + n + ", PACKS", 2, x.count(4));
        }
        DUE.opens("NEST of 4", Due.pack(4, 0, 4, 80, 75, 0, 155), WIDE, 0, NONE, 11);
        bad("NEST of 256, where 4 stand", Due.pack(4, 1, 0, 80, 75, 0, 155), 3, 11, 4);
        bad("NEST of 65535", Due.pack(4, 255, 255), 3, 7, 4);
    }

    /** "a PACK of 256 h + l bytes": one of less than 4 bytes lacks some. */
    private static void nestIsNotBelowAPack() {
        bad("NEST of 0", Due.pack(4, 0, 0), 3, 5, 4 + 3 + 4);
        bad("NEST of 1", Due.pack(4, 0, 1, 80), 3, 6, 4 + 3 + 4);
        bad("NEST of 2", Due.pack(4, 0, 2, 80, 75), 3, 7, 4 + 3 + 4);
        bad("NEST of 3", Due.pack(4, 0, 3, 80, 75, 0), 3, 8, 4 + 3 + 4);
        bad("NEST of 5 with a PACK of 4", Due.pack(4, 0, 5, 80, 75, 0, 155, 0), 10, 9, 4 + 3 + 4);
    }

    /** "5 NOTE: n, n bytes: nothing comes." */
    private static void noteFromNoneToAll() {
        good("NOTE 0", ints(5, 0), 4 + 2);
        good("NOTE 1", ints(5, 1, 0), 4 + 3);
        good("NOTE 255", Due.join(ints(5, 255), Due.times(255, 80)), 4 + 257);
        DUE.opens("NOTE 255 with MOST 0", Due.pack(Due.join(ints(5, 255), Due.times(255, 80))), Due.bounds(0, 261, 0),
            0, NONE, 261);
    }

    /** "6 AGAIN: k: ... (from 0; a former one)" */
    private static void againIsOfAFormerOne() {
        bad("AGAIN 0 as the first ITEM: itself", Due.pack(6, 0), 5, 3, 4);
        good("AGAIN 0 of one", ints(1, 1, 7, 6, 0), 4 + 4 + 3, 7, 7);
        bad("AGAIN 1 of one: itself", Due.pack(1, 1, 7, 6, 1), 5, 6, 4 + 4, 7);
        bad("AGAIN 2 of one: a later one", Due.pack(1, 1, 7, 6, 2, 1, 1, 8), 5, 6, 4 + 4, 7);
        bad("AGAIN 255 of one", Due.pack(1, 1, 7, 6, 255), 5, 6, 4 + 4, 7);
        good("AGAIN 1 of two", ints(1, 1, 7, 1, 1, 8, 6, 1), 4 + 4 + 4 + 4, 7, 8, 7, 8);
        good("AGAIN 255 of 256", Due.join(Due.times(255, 5, 0), ints(2, 1, 3, 6, 255)), 4 + 510 + 4 + 3, 3, 3);
        bad("AGAIN 255 of 255", Due.pack(Due.join(ints(2, 1, 3), Due.times(254, 5, 0), ints(6, 255))), 5,
            2 + 3 + 508 + 1, 4 + 4 + 508, 3);
    }

    /** "all bytes that came by this PACK, up to the end of ITEM k of it ... come again" */
    private static void againIsUpToTheEndOfThatItem() {
        good("AGAIN 0 of three", ints(1, 2, 7, 8, 2, 2, 9, 5, 0, 6, 0), 4 + 6 + 5 + 2 + 4, 7, 8, 9, 9, 7, 8);
        good("AGAIN 1 of three", ints(1, 2, 7, 8, 2, 2, 9, 5, 0, 6, 1), 4 + 6 + 5 + 2 + 6, 7, 8, 9, 9, 7, 8, 9, 9);
        good("AGAIN of a NOTE behind a RUN", ints(2, 1, 9, 5, 0, 6, 1), 4 + 4 + 2 + 3, 9, 9);
        good("AGAIN of nothing", ints(5, 0, 2, 1, 9, 6, 0), 4 + 2 + 4 + 2, 9);
        good("AGAIN of an AGAIN", ints(1, 2, 7, 8, 6, 0, 6, 1), 4 + 6 + 4 + 6, 7, 8, 7, 8, 7, 8, 7, 8);
        good("AGAIN of a COPY", ints(2, 1, 9, 3, 1, 2, 6, 1), 4 + 4 + 5 + 5, 9, 9, 9, 9, 9, 9);
        good("AGAIN of a CODED", ints(7, 1, 9, 1, 2, 0, 6, 0), 4 + 9 + 4, 9, 9, 9, 9);
        good("AGAIN of a NEST", Due.join(ints(1, 1, 4), Due.nest(Due.pack(1, 1, 5)), ints(6, 1)),
            4 + 4 + 3 + 4 + 4 + 4, 4, 5, 4, 5);
        good("AGAIN of the one ahead of a NEST", Due.join(ints(1, 1, 4), Due.nest(Due.pack(1, 1, 5)), ints(6, 0)),
            4 + 4 + 3 + 4 + 4 + 3, 4, 5, 4);
    }

    /** "ITEM k of it": those of a PACK in it or around it don't count. */
    private static void againCountsItemsOfThisPack() {
        int[] around = Due.pack(Due.join(ints(1, 1, 4), ints(1, 1, 5), Due.nest(Due.pack(6, 0))));
        bad("AGAIN of ITEMS around it", around, 5, 14, 4 + 4 + 4 + 3 + 4, 4, 5);
        int[] inside = Due.pack(Due.join(Due.nest(Due.pack(5, 0, 5, 0, 5, 0)), ints(6, 1)));
        bad("AGAIN of ITEMS in a NEST", inside, 5, 16, 4 + 3 + 4 + 6);
        int[] second = Due.join(Due.nest(Due.pack(1, 1, 4)), Due.nest(Due.pack(1, 1, 5, 6, 0)), ints(6, 0));
        good("AGAIN in the second of two NESTS", second, 4 + 11 + 7 + 4 + 3 + 3, 4, 5, 5, 4);
    }

    private static int[] coded(int[] lengths, int n, int... bits) {
        int m = lengths.length;
        int[] symbols = new int[m];
        for (int i = 0; i < m; i++) {
            symbols[i] = 65 + i;
        }
        return Due.join(ints(7, m), symbols, lengths, ints(n), bits);
    }

    /** "7 CODED: m (1 to 8), m SYMBOLS" */
    private static void codedHasOneToEightSymbols() {
        bad("m 0", Due.pack(7, 0, 0), 6, 3, 4);
        good("m 1", coded(ints(1), 1, 0), 4 + 5 + 2, 65);
        good("m 8", coded(ints(3, 3, 3, 3, 3, 3, 3, 3), 1, 0b11100000), 4 + 19 + 2, 72);
        bad("m 9", Due.pack(coded(ints(3, 3, 3, 3, 3, 3, 3, 3, 0), 0)), 6, 3, 4);
        bad("m 255", Due.pack(7, 255), 6, 3, 4);
    }

    /** "m LENGTHS (0 to 7)" */
    private static void codedHasLengthsFromNoneToSeven() {
        good("LENGTH 0", coded(ints(0, 1), 1, 0), 4 + 7 + 2, 66);
        good("LENGTH 7", coded(ints(1, 2, 3, 4, 5, 6, 7, 7), 2, 0b11111101, 0b11111100), 4 + 19 + 4, 71, 72);
        bad("LENGTH 8, the last", Due.pack(coded(ints(1, 2, 3, 4, 5, 6, 7, 8), 0)), 6, 2 + 2 + 8 + 7, 4);
        bad("LENGTH 8, the first", Due.pack(coded(ints(8, 1, 1), 0)), 6, 2 + 2 + 3, 4);
        bad("LENGTH 255", Due.pack(coded(ints(1, 255, 1), 0)), 6, 2 + 2 + 3 + 1, 4);
    }

    /** "THE TABLE is good, if the sum of 1 / 2^LENGTH of all LENGTHS above 0 is 1" */
    private static void tableSumIsOne() {
        int[][] good = {{1, 1}, {1, 2, 2}, {2, 2, 2, 2}, {0, 1, 0, 1, 0}, {3, 3, 3, 3, 3, 3, 3, 3}, {7, 7, 6, 5, 4, 3, 2, 1},
            {1, 2, 3, 4, 5, 6, 6, 0}};
        for (int[] lengths : good) {
            good("sum 1 of " + lengths.length, coded(lengths, 0), 4 + 3 + 2 * lengths.length);
        }
        int[][] bad = {{1, 2}, {2, 2, 2}, {1, 2, 3, 4, 5, 6, 7}, {1, 2, 3, 4, 5, 6, 6, 7}, {1, 1, 7}, {1, 1, 1}, {1, 1, 1, 1},
            {1, 1, 1, 1, 1, 1, 1, 1}, {2, 2, 2, 2, 2, 2, 2, 2}, {7, 7}, {7, 7, 7, 7, 7, 7, 7, 7}, {0, 2, 2}};
        for (int[] lengths : bad) {
            bad("sum not 1 of " + lengths.length, Due.pack(coded(lengths, 0)), 6, 2 + 2 + lengths.length, 4);
        }
    }

    /** "or just one is above 0, and is 1" */
    private static void tableOfJustOne() {
        good("just one of one", coded(ints(1), 2, 0), 4 + 5 + 4, 65, 65);
        good("just one, the first of eight", coded(ints(1, 0, 0, 0, 0, 0, 0, 0), 1, 0), 4 + 19 + 2, 65);
        good("just one, the last of eight", coded(ints(0, 0, 0, 0, 0, 0, 0, 1), 1, 0), 4 + 19 + 2, 72);
        bad("just one, 2", Due.pack(coded(ints(2), 0)), 6, 5, 4);
        bad("just one, 7", Due.pack(coded(ints(0, 7), 0)), 6, 6, 4);
        bad("none above 0", Due.pack(coded(ints(0), 0)), 6, 5, 4);
        bad("none of eight above 0", Due.pack(coded(ints(0, 0, 0, 0, 0, 0, 0, 0), 0)), 6, 12, 4);
        bad("one is 1, and one more", Due.pack(coded(ints(1, 2), 0)), 6, 6, 4);
    }

    /** "Codes: by LENGTH, then in their order, the first one is all 0, each next one the one before and 1, with 0s behind" */
    private static void codesByLengthThenInOrder() {
        good("in their order", coded(ints(2, 2, 2, 2), 4, 0b00011011), 4 + 11 + 8, 65, 66, 67, 68);
        good("by LENGTH", coded(ints(3, 3, 2, 1), 4, 0b01011011, 0b10000000), 4 + 11 + 8, 68, 67, 65, 66);
        // lengths 3 1 3 2: 66 is 0, 68 is 10, 65 is 110, 67 is 111
        good("both", coded(ints(3, 1, 3, 2), 4, 0b11001111, 0b00000000), 4 + 11 + 8, 65, 66, 67, 68);
        // the second code is 2 longer than the first: 0, 100, 101, 110, 111
        good("longer by two", coded(ints(1, 3, 3, 3, 3), 5, 0b01001011, 0b10111000), 4 + 13 + 10, 65, 66, 67, 68, 69);
        // 00, 01, 10, 110, 1110, 11110, 111110, 111111
        good("all of eight", coded(ints(2, 2, 2, 3, 4, 5, 6, 6), 8, 0b00011011, 0b01110111, 0b10111110, 0b11111100),
            4 + 19 + 16, 65, 66, 67, 68, 69, 70, 71, 72);
        good("one without a code between", coded(ints(1, 0, 1), 2, 0b01000000), 4 + 9 + 4, 65, 67);
    }

    /** "by its code": each CODED goes by its own TABLE, whatever one ahead of it had. */
    private static void eachCodedHasItsTable() {
        int[] wide = coded(ints(2, 2, 2, 2), 1, 0b11000000);
        int[] one = coded(ints(1), 2, 0);
        int[] two = coded(ints(1, 1), 2, 0b10000000);
        good("wide, one", Due.join(wide, one), 4 + 13 + 9, 68, 65, 65);
        good("one, wide", Due.join(one, wide), 4 + 9 + 13, 65, 65, 68);
        good("wide, two, one", Due.join(wide, two, one), 4 + 13 + 11 + 9, 68, 66, 65, 65, 65);
        bad("wide, just one that is 2", Due.pack(Due.join(wide, coded(ints(2), 0))), 6, 2 + 12 + 3, 4 + 13, 68);
        Calls x = Due.taped(Due.pack(wide));
        DUE.is("wide", 1, x.open(9, 99, 0));
        Due.lay(x, Due.pack(one));
        DUE.is("then one", 2, x.open(9, 99, 0));
    }

    /** "Bits are the highest of a byte first": also where a code goes over the end of a byte. */
    private static void bitsAreTheHighestFirst() {
        good("the highest", coded(ints(1, 1), 1, 0b10000000), 4 + 7 + 2, 66);
        good("all eight", coded(ints(1, 1), 8, 0b10010110), 4 + 7 + 16, 66, 65, 65, 66, 65, 66, 66, 65);
        good("a code over two bytes", coded(ints(3, 3, 3, 3, 3, 3, 3, 3), 3, 0b00000001, 0b10000000), 4 + 19 + 6, 65, 65, 68);
        int[] seven = coded(ints(7, 7, 6, 5, 4, 3, 2, 1), 3, 0b11111111, 0b11111011, 0b11111000);
        good("codes of 7 over three bytes", seven, 4 + 19 + 6, 66, 65, 66);
    }

    /** "what is left of the last byte is 0": from none to seven bits. */
    private static void leftBitsAreNone() {
        for (int n = 1; n <= 16; n++) {
            int[] ones = Due.times((n + 7) / 8, 255);
            int left = 8 * ones.length - n;
            ones[ones.length - 1] = 255 >> left << left & 255;
            good(left + " bits left", coded(ints(1, 1), n, ones), 4 + 7 + 2 * n, Due.times(n, 66));
            for (int bit = 0; bit < left; bit++) {
                int[] more = Due.with(ones, ones.length - 1, ones[ones.length - 1] | 1 << bit);
                bad(left + " bits left, one is 1", Due.pack(coded(ints(1, 1), n, more)), 8, 2 + 7 + ones.length - 1,
                    4 + 7 + 2 * n, Due.times(n, 66));
            }
        }
        good("255 codes of 1", coded(ints(1), 255, Due.times(32, 0)), 4 + 5 + 510, Due.times(255, 65));
        int[] sevens = coded(ints(7, 7, 6, 5, 4, 3, 2, 1), 255, Due.join(Due.times(223, 255), ints(0b10000000)));
        good("255 codes of 7", sevens, 4 + 19 + 510, Due.times(255, 66));
    }

    /** "(Without n there are no bytes of bits.)": the next ITEM follows at once. */
    private static void withoutSymbolsThereAreNoBits() {
        good("n 0 at the end", coded(ints(1, 1), 0), 4 + 7);
        good("n 0 ahead of a RUN", Due.join(coded(ints(1, 1), 0), ints(2, 1, 9)), 4 + 7 + 4, 9);
        Calls x = DUE.opens("n 0 ahead of a KIND 8", Due.pack(Due.join(coded(ints(1, 1), 0), ints(8))), WIDE, -12, 9, 4 + 7);
        DUE.is("n 0: it was READ to its end", 1, x.item(NONE, 0));
    }

    /** "What comes by all PACKS comes to OUT, one behind the other." */
    private static void outIsOneBehindTheOther() {
        int[] deep = Due.nest(Due.pack(Due.join(ints(1, 1, 2), Due.nest(Due.pack(1, 1, 3)), ints(1, 1, 4))));
        good("around, in it, and around", Due.join(ints(1, 1, 1), deep, ints(1, 1, 5)), 4 + 4 + 7 + 4 + 7 + 4 + 4 + 4,
            1, 2, 3, 4, 5);
        good("two NESTS", Due.join(Due.nest(Due.pack(1, 1, 1)), Due.nest(Due.pack()), Due.nest(Due.pack(1, 1, 2))),
            4 + 11 + 7 + 11, 1, 2);
    }
}
