/** Terms 2, how the TAPE is READ, its COST and its FAULTS: each sentence that names an edge has a test of its own. */
public final class FaultEdgeTest {
    private static final Due DUE = new Due();
    private static final int NONE = -1;
    private static final int[] WIDE = Due.bounds(4000, 20000, 8);
    /** Each KIND once, and what these 8 ITEMS bring and COST. */
    private static final int[] ALL = Due.join(Due.bytes(1, 2, 7, 8), Due.bytes(2, 3, 9), Due.bytes(3, 4, 2),
        Due.nest(Due.pack(2, 1, 6)), Due.bytes(5, 2, 1, 1), Due.bytes(6, 0), Due.bytes(7, 2, 4, 5, 1, 1, 9, 170, 128),
        Due.bytes(5, 0));
    private static final int[] ALL_OUT = {7, 8, 9, 9, 9, 8, 9, 6, 7, 8, 5, 4, 5, 4, 5, 4, 5, 4, 5};
    private static final int[] ALL_COSTS = {6, 6, 5, 11, 4, 4, 25, 2};

    public static void main(String[] args) {
        tapeIsAPack();
        eachPackCostsFour();
        itemsCostTheirBytesAndWhatComes();
        firstTwoBytes();
        kindAboveSeven();
        aByteLacks();
        lacksAtThatPacksEnd();
        lacksAsSoonAsTheLengthIsKnown();
        distance();
        former();
        symbolsAndLengths();
        bitWithoutACode();
        bitsLeft();
        check();
        bytesBehind();
        moreThanMost();
        mostIsOfAllPacks();
        moreThanSteps();
        boundsWhenTheBytesAreGood();
        mostAheadOfSteps();
        stepsOfAPackAheadOfAll();
        moreThanDeep();
        deepBehindLacksAndSteps();
        theFirstThatIsMet();
        outKeepsWhatCame();
        DUE.end();
    }

    private static int[] ints(int... all) {
        return all;
    }

    private static Calls bad(String name, int[] tape, int fault, int place, int cost, int... out) {
        return DUE.opens(name, tape, WIDE, -10 - fault, place, cost, out);
    }

    private static int sum(int[] all, int n) {
        int sum = 0;
        for (int i = 0; i < n; i++) {
            sum += all[i];
        }
        return sum;
    }

    /** "READ ... the TAPE is a PACK": an empty one lacks its first byte; a full one may be good. */
    private static void tapeIsAPack() {
        bad("an empty TAPE", ints(), 3, 0, 4);
        int[] full = Due.pack(Due.join(Due.times(4, Due.join(ints(5, 255), Due.times(255, 1))), ints(5, 166), Due.times(166, 2)));
        DUE.is("a full TAPE", 1200, full.length);
        DUE.opens("a full TAPE", full, WIDE, 0, NONE, 1200);
        Calls x = Due.taped(Due.pack(1, 1, 7));
        x.open(9, 9, 0);
        x.cut(0);
        DUE.is("empty again", -13, x.open(9, 9, 0));
        DUE.is("empty again: place", 0, x.place());
        DUE.is("empty again: OUT", 0, x.count(1));
    }

    /** "It COSTS STEPS: each PACK 4": with none in it, and 8 in one another. */
    private static void eachPackCostsFour() {
        int[] tape = Due.pack();
        for (int deep = 0; deep <= 8; deep++) {
            DUE.opens(deep + " deep", tape, Due.bounds(0, 4 + 7 * deep, deep), 0, NONE, 4 + 7 * deep);
            tape = Due.pack(Due.nest(tape));
        }
        int[] two = Due.pack(Due.join(Due.nest(Due.pack()), Due.nest(Due.pack())));
        DUE.opens("two side by side", two, WIDE, 0, NONE, 4 + 7 + 7);
    }

    /** "each ITEM its bytes (of NEST 3, of CODED those ahead of the bits) and as many as come by it itself (CODED: twice)" */
    private static void itemsCostTheirBytesAndWhatComes() {
        Calls x = DUE.opens("each KIND", Due.pack(ALL), WIDE, ALL_OUT.length, NONE, 4 + sum(ALL_COSTS, 8), ALL_OUT);
        for (int i = 0; i < ALL_COSTS.length; i++) {
            DUE.is("COST of ITEM " + i, ALL_COSTS[i], x.item(i, 3));
        }
        int[] empty = Due.join(ints(1, 0), ints(2, 0, 9), ints(5, 0), ints(6, 0), ints(7, 1, 4, 1, 0));
        DUE.opens("nothing comes", Due.pack(empty), WIDE, 0, NONE, 4 + 2 + 3 + 2 + 2 + 5);
        int[] most = Due.join(ints(2, 255, 9), ints(3, 255, 255), ints(6, 1), ints(7, 1, 9, 1, 255), Due.times(32, 0));
        DUE.opens("as many as can come", Due.pack(most), WIDE, 255 + 255 + 510 + 255, NONE,
            4 + 258 + 258 + 512 + 515, Due.times(1275, 9));
    }

    /** "1 a PACK's first two bytes are others, at the one that is" */
    private static void firstTwoBytes() {
        int[] good = {80, 75, 0, 155};
        for (int b : ints(0, 75, 79, 81, 255)) {
            bad("first byte " + b, Due.with(good, 0, b), 1, 0, 4);
        }
        for (int b : ints(0, 74, 76, 80, 255)) {
            bad("second byte " + b, Due.with(good, 1, b), 1, 1, 4);
        }
        bad("both others", ints(75, 80, 0, 155), 1, 0, 4);
        bad("the first other, no second", ints(81), 1, 0, 4);
        bad("in a NEST, the first", Due.pack(4, 0, 4, 81, 75, 0, 156), 1, 5, 11);
        bad("in a NEST, the second", Due.pack(4, 0, 4, 80, 76, 0, 156), 1, 6, 11);
    }

    /** "2 the KIND is above 7, at it" */
    private static void kindAboveSeven() {
        bad("KIND 7 is none, but lacks", ints(80, 75, 7), 3, 3, 4);
        for (int kind : ints(8, 9, 80, 128, 255)) {
            bad("KIND " + kind, Due.pack(kind), 2, 2, 4);
            bad("KIND " + kind + " as the last byte", ints(80, 75, kind), 2, 2, 4);
            bad("KIND " + kind + " behind an ITEM", Due.pack(1, 1, 7, kind), 2, 5, 8, 7);
            bad("KIND " + kind + " in a NEST", Due.pack(Due.nest(Due.pack(kind))), 2, 7, 11);
        }
        DUE.opens("ahead of MOST and STEPS", Due.pack(8, 255, 255), Due.bounds(0, 4, 0), -12, 2, 4);
    }

    /** "3 a byte lacks (of a PACK ..)": each byte of a good PACK is needed. */
    private static void aByteLacks() {
        int[] tape = Due.pack(ALL);
        for (int n = 0; n < tape.length; n++) {
            Calls x = Due.taped(Due.first(n, tape));
            DUE.is("cut to " + n, -13, x.open(4000, 20000, 8));
            DUE.is("cut to " + n + ": place", n, x.place());
        }
        DUE.is("not cut", ALL_OUT.length, Due.taped(tape).open(4000, 20000, 8));
    }

    /** "at that PACK's end": of the PACK in a NEST where the NEST ends, though bytes stand behind. */
    private static void lacksAtThatPacksEnd() {
        int[] inner = Due.pack(ALL);
        for (int n = 0; n < inner.length; n++) {
            int[] tape = Due.pack(Due.join(Due.nest(Due.first(n, inner)), ints(5, 3, 1, 1, 1)));
            Calls x = Due.taped(tape);
            DUE.is("a NEST cut to " + n, -13, x.open(4000, 20000, 8));
            DUE.is("a NEST cut to " + n + ": place", 5 + n, x.place());
        }
    }

    /** "also of a NEST's bytes as soon as its length is known, of NOTES and STORED likewise" */
    private static void lacksAsSoonAsTheLengthIsKnown() {
        for (int kind : ints(1, 5)) {
            bad("KIND " + kind + " of 2 with 1", ints(80, 75, kind, 2, 9), 3, 5, 4);
            bad("KIND " + kind + " of 255 with none", ints(80, 75, kind, 255), 3, 4, 4);
            int[] one = ints(80, 75, kind, 1, 9);
            DUE.opens("KIND " + kind + " of 1 with 1, and no end", one, WIDE, -13, 5, kind == 1 ? 8 : 7,
                kind == 1 ? ints(9) : ints());
            bad("KIND " + kind + " over the end of a NEST", Due.pack(4, 0, 5, 80, 75, kind, 2, 9, 9, 9), 3, 10, 11);
        }
        bad("NEST of 4 with 3", ints(80, 75, 4, 0, 4, 80, 75, 0), 3, 8, 4);
        bad("NEST of 4 with 3 that are bad", ints(80, 75, 4, 0, 4, 1, 1, 1), 3, 8, 4);
        bad("NEST of 256 with 255", Due.join(ints(80, 75, 4, 1, 0), Due.times(255, 9)), 3, 260, 4);
        bad("NEST of 256 with 256, bad", Due.join(ints(80, 75, 4, 1, 0), Due.times(256, 9)), 1, 5, 11);
        bad("NEST over the end of a NEST", Due.pack(4, 0, 6, 80, 75, 4, 0, 2, 9, 9, 9, 9), 3, 11, 11);
    }

    /** "4 COPY's d, at it": n may even lack. */
    private static void distance() {
        bad("d 0, n lacks", ints(80, 75, 2, 1, 9, 3, 0), 4, 6, 8, 9);
        bad("d 2 of 1, n lacks", ints(80, 75, 2, 1, 9, 3, 2), 4, 6, 8, 9);
        bad("d 1 of 1, n lacks", ints(80, 75, 2, 1, 9, 3, 1), 3, 7, 8, 9);
        bad("d lacks", ints(80, 75, 2, 1, 9, 3), 3, 6, 8, 9);
    }

    /** "5 AGAIN's k, at it" */
    private static void former() {
        bad("k 0 of none", ints(80, 75, 6, 0), 5, 3, 4);
        bad("k 1 of 1", ints(80, 75, 2, 1, 9, 6, 1), 5, 6, 8, 9);
        bad("k 0 of 1, and no end", ints(80, 75, 2, 1, 9, 6, 0), 3, 7, 8 + 3, 9, 9);
        bad("k lacks", ints(80, 75, 2, 1, 9, 6), 3, 6, 8, 9);
    }

    /** "6 m, at it; a LENGTH above 7, at it; else THE TABLE, at its first LENGTH" */
    private static void symbolsAndLengths() {
        bad("m 0, and nothing behind", ints(80, 75, 7, 0), 6, 3, 4);
        bad("m 9, and nothing behind", ints(80, 75, 7, 9), 6, 3, 4);
        bad("m 8, and nothing behind", ints(80, 75, 7, 8), 3, 4, 4);
        bad("a LENGTH above 7, and nothing behind", ints(80, 75, 7, 2, 5, 6, 8), 6, 6, 4);
        bad("a LENGTH of 7, and nothing behind", ints(80, 75, 7, 2, 5, 6, 7), 3, 7, 4);
        bad("the first LENGTH above 7", Due.pack(7, 3, 5, 6, 7, 1, 9, 8, 0), 6, 8, 4);
        bad("a LENGTH above 7, ahead of THE TABLE", Due.pack(7, 4, 5, 6, 7, 8, 1, 1, 1, 8, 0), 6, 11, 4);
        bad("THE TABLE", Due.pack(7, 4, 5, 6, 7, 8, 1, 1, 1, 7, 0), 6, 8, 4);
        bad("THE TABLE in a NEST", Due.pack(Due.nest(Due.pack(7, 1, 5, 3, 0))), 6, 10, 11);
        bad("SYMBOLS may be above 7", Due.pack(7, 2, 255, 8, 1, 1, 1, 1), 8, 9, 4 + 7 + 2, 255);
    }

    /** "7 a bit with which no code begins, at the byte in which that code begins" */
    private static void bitWithoutACode() {
        for (int n = 0; n < 24; n++) {
            int[] bits = new int[4];
            bits[n / 8] = 128 >> n % 8;
            int[] tape = Due.pack(Due.join(ints(7, 1, 65, 1, 30), bits));
            bad("no code with bit " + n, tape, 7, 7 + n / 8, 4 + 5 + 60, Due.times(n, 65));
        }
        bad("the last bit that is needed", Due.pack(7, 1, 65, 1, 8, 1), 7, 7, 4 + 5 + 16, Due.times(7, 65));
        bad("the first bit that is left", Due.pack(7, 1, 65, 1, 7, 1), 8, 7, 4 + 5 + 14, Due.times(7, 65));
        bad("ahead of a byte that lacks", ints(80, 75, 7, 1, 65, 1, 9, 1), 7, 7, 4 + 5 + 18, Due.times(7, 65));
        bad("behind which a byte lacks", ints(80, 75, 7, 1, 65, 1, 9, 0), 3, 8, 4 + 5 + 18, Due.times(8, 65));
    }

    /** "8 bits left are not 0, at that byte" */
    private static void bitsLeft() {
        bad("seven left", Due.pack(7, 2, 65, 66, 1, 1, 1, 192), 8, 9, 4 + 7 + 2, 66);
        bad("one left", Due.pack(7, 2, 65, 66, 1, 1, 7, 255), 8, 9, 4 + 7 + 14, Due.times(7, 66));
        DUE.opens("none left", Due.pack(7, 2, 65, 66, 1, 1, 8, 255), WIDE, 8, NONE, 4 + 7 + 16, Due.times(8, 66));
        bad("in the second byte", Due.pack(7, 2, 65, 66, 1, 1, 9, 255, 192), 8, 10, 4 + 7 + 18, Due.times(9, 66));
        bad("and no end behind", ints(80, 75, 7, 2, 65, 66, 1, 1, 1, 129), 8, 9, 4 + 7 + 2, 66);
    }

    /** "9 CHECK is another one, at it" */
    private static void check() {
        bad("one more", ints(80, 75, 0, 156), 9, 3, 4);
        bad("one less", ints(80, 75, 0, 154), 9, 3, 4);
        bad("0", ints(80, 75, 0, 0), 9, 3, 4);
        bad("of a NEST", Due.pack(4, 0, 4, 80, 75, 0, 156), 9, 8, 11);
        bad("of the PACK around", Due.with(Due.pack(Due.nest(Due.pack())), 10, 0), 9, 10, 11);
    }

    /** "10 bytes stand behind a PACK's CHECK, at the first" */
    private static void bytesBehind() {
        bad("one", ints(80, 75, 0, 155, 0), 10, 4, 4);
        bad("two", ints(80, 75, 0, 155, 80, 75), 10, 4, 4);
        bad("a whole PACK", ints(80, 75, 0, 155, 80, 75, 0, 155), 10, 4, 4);
        bad("in a NEST", Due.pack(4, 0, 5, 80, 75, 0, 155, 9), 10, 9, 11);
        bad("up to a full TAPE", Due.join(ints(80, 75, 0, 155), Due.times(1196, 1)), 10, 4, 4);
    }

    /** "11 more than MOST bytes would have come with an ITEM": just as many are good. */
    private static void moreThanMost() {
        int[][] items = {ints(1, 2, 7, 7), ints(2, 2, 7), ints(3, 1, 2), ints(6, 0), ints(7, 1, 7, 1, 2, 0)};
        for (int[] item : items) {
            int[] tape = Due.pack(Due.join(ints(2, 2, 7), item));
            String name = "KIND " + item[0];
            DUE.is(name + ", just MOST", 4, Due.taped(tape).open(4, 20000, 0));
            DUE.opens(name + ", one more", tape, Due.bounds(3, 20000, 0), -21, 5, 4 + 5, 7, 7);
            DUE.opens(name + ", two more", tape, Due.bounds(2, 20000, 0), -21, 5, 4 + 5, 7, 7);
            DUE.opens(name + ", the one ahead", tape, Due.bounds(1, 20000, 0), -21, 2, 4);
        }
        int[] none = Due.pack(Due.join(ints(1, 0), ints(2, 0, 7), ints(5, 1, 9), ints(6, 0), ints(7, 1, 7, 1, 0),
            Due.nest(Due.pack())));
        DUE.opens("MOST 0, where nothing comes", none, Due.bounds(0, 20000, 1), 0, NONE, 4 + 2 + 3 + 3 + 2 + 5 + 7);
        int[] full = Due.pack(Due.join(Due.times(15, 2, 255, 6), ints(2, 175, 6), ints(2, 0, 6), ints(5, 0)));
        DUE.is("4000", 4000, Due.taped(full).open(4000, 20000, 0));
        int[] above = Due.pack(Due.join(Due.times(15, 2, 255, 6), ints(2, 175, 6), ints(2, 1, 6)));
        Calls x = Due.taped(above);
        DUE.is("4001", -21, x.open(4000, 20000, 0));
        DUE.is("4001: place", 2 + 48, x.place());
        DUE.is("4001: OUT", 4000, x.count(1));
    }

    /** "more than MOST bytes would have come": by all PACKS. */
    private static void mostIsOfAllPacks() {
        int[] tape = Due.pack(Due.join(ints(2, 2, 7), Due.nest(Due.pack(2, 1, 8)), ints(2, 1, 9)));
        DUE.opens("just MOST", tape, Due.bounds(4, 20000, 1), 4, NONE, 4 + 5 + 7 + 4 + 4, 7, 7, 8, 9);
        DUE.opens("behind the NEST", tape, Due.bounds(3, 20000, 1), -21, 15, 4 + 5 + 7 + 4, 7, 7, 8);
        DUE.opens("in the NEST", tape, Due.bounds(2, 20000, 1), -21, 10, 4 + 5 + 7, 7, 7);
    }

    /** "12 it would COST more STEPS than there are", "at the ITEM's first byte": just as many are good. */
    private static void moreThanSteps() {
        int[] tape = Due.pack(ALL);
        int[] places = new int[8];
        Calls whole = Due.taped(tape);
        whole.open(4000, 20000, 8);
        for (int i = 0; i < 8; i++) {
            places[i] = whole.item(i, 1);
        }
        for (int i = 0; i < 8; i++) {
            int ahead = 4 + sum(ALL_COSTS, i);
            Calls x = Due.taped(tape);
            String name = "ITEM " + i;
            // one STEP less than the ITEM COSTS, of the NEST one less than its own 3
            x.open(4000, ahead + (i == 3 ? 3 : ALL_COSTS[i]) - 1, 8);
            DUE.is(name + ", one less", 12, x.count(5));
            DUE.is(name + ", one less: place", places[i], x.place());
            DUE.is(name + ", one less: COST", ahead, x.count(2));
            DUE.is(name + ", one less: ITEMS", i, x.item(NONE, 0));
            x.open(4000, ahead, 8);
            DUE.is(name + ", none: place", places[i], x.place());
            x.open(4000, ahead + ALL_COSTS[i], 8);
            DUE.is(name + ", just as many: FAULT", i < 7 ? 12 : 0, x.count(5));
            DUE.is(name + ", just as many: place", i < 7 ? places[i + 1] : NONE, x.place());
            DUE.is(name + ", just as many: COST", ahead + ALL_COSTS[i], x.count(2));
        }
    }

    /** "both at the ITEM's first byte, when its bytes (of CODED those ahead of the bits) are good" */
    private static void boundsWhenTheBytesAreGood() {
        for (int[] b : new int[][] {Due.bounds(0, 20000, 0), Due.bounds(4000, 4, 0)}) {
            int bound = b[0] == 0 ? -21 : -22;
            DUE.opens("STORED lacks", ints(80, 75, 1, 2, 9), b, -13, 5, 4);
            DUE.opens("RUN lacks", ints(80, 75, 2, 2), b, -13, 4, 4);
            DUE.opens("COPY's d", Due.pack(3, 1, 2), b, -14, 3, 4);
            DUE.opens("AGAIN's k", Due.pack(6, 0), b, -15, 3, 4);
            DUE.opens("CODED's m", Due.pack(7, 9), b, -16, 3, 4);
            DUE.opens("CODED's TABLE", Due.pack(7, 1, 9, 2, 9), b, -16, 5, 4);
            DUE.opens("CODED's n lacks", ints(80, 75, 7, 1, 9, 1), b, -13, 6, 4);
            DUE.opens("CODED without bits", ints(80, 75, 7, 1, 9, 1, 1), b, bound, 2, 4);
            DUE.opens("CODED, a bit without a code", Due.pack(7, 1, 9, 1, 1, 128), b, bound, 2, 4);
            DUE.opens("CODED, bits left", Due.pack(7, 1, 9, 1, 1, 1), b, bound, 2, 4);
            DUE.opens("STORED, and no end", ints(80, 75, 1, 1, 9), b, bound, 2, 4);
        }
    }

    /** "11 first" */
    private static void mostAheadOfSteps() {
        int[][] items = {ints(1, 2, 7, 7), ints(2, 2, 7), ints(7, 1, 7, 1, 2, 0)};
        for (int[] item : items) {
            DUE.opens("KIND " + item[0], Due.pack(item), Due.bounds(1, 4, 0), -21, 2, 4);
            DUE.opens("KIND " + item[0], Due.pack(item), Due.bounds(2, 4, 0), -22, 2, 4);
        }
        for (int[] item : new int[][] {ints(3, 1, 2), ints(6, 0)}) {
            int[] tape = Due.pack(Due.join(ints(2, 2, 7), item));
            DUE.opens("KIND " + item[0], tape, Due.bounds(3, 9, 0), -21, 5, 9, 7, 7);
            DUE.opens("KIND " + item[0], tape, Due.bounds(4, 9, 0), -22, 5, 9, 7, 7);
        }
    }

    /** "12 of a PACK: at its first byte, ahead of all" */
    private static void stepsOfAPackAheadOfAll() {
        int[][] tapes = {ints(), ints(1), ints(80), Due.pack(), Due.pack(8), Due.times(1200, 9)};
        for (int[] tape : tapes) {
            for (int steps = 0; steps < 4; steps++) {
                DUE.opens("a PACK with " + steps, tape, Due.bounds(0, steps, 0), -22, 0, 0);
            }
        }
        for (int[] inner : new int[][] {ints(), ints(1), ints(80), Due.pack(), Due.pack(8)}) {
            int[] tape = Due.pack(Due.join(ints(2, 1, 9), Due.nest(inner)));
            for (int steps = 8 + 3; steps < 8 + 3 + 4; steps++) {
                DUE.opens("a NEST with " + steps, tape, Due.bounds(1, steps, 1), -22, 8, 11, 9);
            }
        }
    }

    /** "13 a NEST would lie in more than DEEP PACKS (that on the TAPE lies in none), at its first byte" */
    private static void moreThanDeep() {
        int[] tape = Due.pack(1, 1, 9);
        for (int nests = 1; nests <= 10; nests++) {
            tape = Due.pack(Due.nest(tape));
            for (int deep = 0; deep <= 8; deep++) {
                boolean fits = nests <= deep;
                Calls x = Due.taped(tape);
                String name = nests + " NESTS, DEEP " + deep;
                DUE.is(name, fits ? 1 : -23, x.open(1, 20000, deep));
                DUE.is(name + ": place", fits ? NONE : 5 * deep + 2, x.place());
                DUE.is(name + ": COST", fits ? 8 + 7 * nests : 4 + 7 * deep, x.count(2));
                DUE.is(name + ": how deep", Math.min(nests, deep), x.count(3));
            }
        }
        int[] beside = Due.pack(Due.times(9, Due.nest(Due.pack())));
        DUE.opens("nine side by side", beside, Due.bounds(0, 20000, 1), 0, NONE, 4 + 9 * 7);
        DUE.opens("nine side by side, DEEP 0", beside, Due.bounds(0, 20000, 0), -23, 2, 4);
        int[] second = Due.pack(Due.join(Due.nest(Due.pack()), Due.nest(Due.pack(Due.nest(Due.pack())))));
        DUE.opens("in the second", second, Due.bounds(0, 20000, 1), -23, 14, 4 + 7 + 7);
        DUE.opens("no NEST, DEEP 0", Due.pack(1, 1, 9), Due.bounds(1, 20000, 0), 1, NONE, 8, 9);
    }

    /** "13 ..., behind 3 and 12" */
    private static void deepBehindLacksAndSteps() {
        DUE.opens("h lacks", ints(80, 75, 4), Due.bounds(0, 4, 0), -13, 3, 4);
        DUE.opens("l lacks", ints(80, 75, 4, 0), Due.bounds(0, 4, 0), -13, 4, 4);
        DUE.opens("its bytes lack", ints(80, 75, 4, 0, 1), Due.bounds(0, 4, 0), -13, 5, 4);
        int[] tape = Due.pack(Due.nest(Due.pack()));
        for (int steps = 4; steps < 7; steps++) {
            DUE.opens("with " + steps, tape, Due.bounds(0, steps, 0), -22, 2, 4);
        }
        DUE.opens("with 7", tape, Due.bounds(0, 7, 0), -23, 2, 4);
        DUE.opens("with 11", tape, Due.bounds(0, 11, 0), -23, 2, 4);
        DUE.opens("its bytes are not looked at", Due.pack(4, 0, 2, 8, 8), Due.bounds(0, 7, 0), -23, 2, 4);
        DUE.opens("a NEST of no bytes", Due.pack(4, 0, 0), Due.bounds(0, 7, 0), -23, 2, 4);
    }

    /** "FAULTS, the first that is met, ... going along byte by byte" */
    private static void theFirstThatIsMet() {
        bad("a mark, ahead of a KIND", ints(80, 0, 8), 1, 1, 4);
        bad("a KIND, ahead of what lacks", ints(80, 75, 8), 2, 2, 4);
        bad("d, ahead of a KIND", Due.pack(3, 1, 1, 8), 4, 3, 4);
        bad("a KIND, ahead of d", Due.pack(8, 3, 1, 1), 2, 2, 4);
        bad("in the NEST, ahead of what is behind", Due.with(Due.pack(4, 0, 4, 80, 75, 0, 1, 8), 11, 0), 9, 8, 11);
        bad("the NEST's bytes lack, ahead of its mark", ints(80, 75, 4, 0, 9, 1), 3, 6, 4);
        bad("CHECK, ahead of bytes behind", ints(80, 75, 0, 0, 0), 9, 3, 4);
        bad("the CHECK lacks, not bytes behind", ints(80, 75, 0), 3, 3, 4);
        DUE.opens("MOST of the first, ahead of a KIND", Due.pack(2, 9, 9, 8), Due.bounds(8, 99, 0), -21, 2, 4);
    }

    /** "With a FAULT OUT keeps what came till then (of an ITEM with 7, 8, 3 in its bits: what came of it, too)." */
    private static void outKeepsWhatCame() {
        int[] ahead = {2, 2, 7};
        int[][] rests = {Due.nest(1), ints(8), ints(1, 9, 9), ints(3, 3, 1), ints(6, 1), ints(7, 9)};
        for (int i = 0; i < rests.length; i++) {
            Calls x = Due.taped(Due.pack(Due.join(ahead, rests[i])));
            DUE.is("FAULT " + (i + 1), -11 - i, x.open(4000, 20000, 8));
            keeps("FAULT " + (i + 1), x, 7, 7);
        }
        int[] table = {7, 2, 5, 6, 1, 1};
        Calls x = Due.taped(Due.pack(Due.join(ahead, ints(7, 1, 5, 1, 4, 0b00100000))));
        DUE.is("FAULT 7", -17, x.open(4000, 20000, 8));
        keeps("FAULT 7", x, 7, 7, 5, 5);
        x = Due.taped(Due.pack(Due.join(ahead, table, ints(3, 0b10110000))));
        DUE.is("FAULT 8", -18, x.open(4000, 20000, 8));
        keeps("FAULT 8", x, 7, 7, 6, 5, 6);
        x = Due.taped(Due.join(ints(80, 75), ahead, table, ints(9, 0b10101010)));
        DUE.is("FAULT 3 in bits", -13, x.open(4000, 20000, 8));
        keeps("FAULT 3 in bits", x, 7, 7, 6, 5, 6, 5, 6, 5, 6, 5);
        x = Due.taped(Due.join(ints(80, 75), ahead, table, ints(9)));
        DUE.is("FAULT 3 ahead of bits", -13, x.open(4000, 20000, 8));
        keeps("FAULT 3 ahead of bits", x, 7, 7);
        x = Due.taped(Due.with(Due.pack(ahead), 6, 0));
        DUE.is("FAULT 9", -19, x.open(4000, 20000, 8));
        keeps("FAULT 9", x, 7, 7);
        x = Due.taped(Due.join(Due.pack(ahead), ints(0)));
        DUE.is("FAULT 10", -20, x.open(4000, 20000, 8));
        keeps("FAULT 10", x, 7, 7);
        x = Due.taped(Due.pack(Due.join(ahead, Due.nest(Due.pack(2, 1, 8, 2, 2, 9)))));
        DUE.is("FAULT 11", -21, x.open(4, 20000, 8));
        keeps("FAULT 11", x, 7, 7, 8);
        DUE.is("FAULT 12", -22, x.open(4000, 9 + 7 + 4 + 4, 8));
        keeps("FAULT 12", x, 7, 7, 8);
        DUE.is("FAULT 12 of a PACK", -22, x.open(4000, 9 + 6, 8));
        keeps("FAULT 12 of a PACK", x, 7, 7);
        DUE.is("FAULT 13", -23, x.open(4000, 20000, 0));
        keeps("FAULT 13", x, 7, 7);
    }

    private static void keeps(String name, Calls x, int... out) {
        DUE.is(name + ": size of OUT", out.length, x.count(1));
        for (int i = 0; i < out.length; i++) {
            DUE.is(name + ": out(" + i + ")", out[i], x.out(i));
        }
        DUE.is(name + ": behind OUT", NONE, x.out(out.length));
    }
}
