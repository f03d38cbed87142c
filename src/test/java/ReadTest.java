/** Promises 8, 9, 10, 13: open, place, out, count: each KIND, each FAULT, in the order in which they are met. */
public final class ReadTest {
    private static final Due DUE = new Due();
    private static final int NONE = -1, OUTSIDE = -2;
    private static final int[] WIDE = Due.bounds(4000, 20000, 8);

    public static void main(String[] args) {
        goodItems();
        goodCodes();
        windowsOfPacks();
        marks();
        kinds();
        lacks();
        distancesAndFormers();
        tables();
        bits();
        checks();
        most();
        steps();
        stepsOfPacks();
        depths();
        firstOfTwoFaults();
        wrongNumbers();
        counts();
        largest();
        DUE.end();
    }

    private static int[] ints(int... all) {
        return all;
    }

    private static void good(String name, int[] items, int cost, int... out) {
        DUE.opens(name, Due.pack(items), WIDE, out.length, NONE, cost, out);
    }

    private static void bad(String name, int[] tape, int fault, int place, int cost, int... out) {
        DUE.opens(name, tape, WIDE, -10 - fault, place, cost, out);
    }

    private static void goodItems() {
        good("no ITEM", ints(), 4);
        good("STORED", ints(1, 3, 7, 0, 255), 4 + 5 + 3, 7, 0, 255);
        good("STORED 0", ints(1, 0), 4 + 2);
        good("RUN", ints(2, 3, 9), 4 + 3 + 3, 9, 9, 9);
        good("RUN 0", ints(2, 0, 9), 4 + 3);
        good("COPY", ints(1, 3, 1, 2, 3, 3, 3, 2), 4 + 8 + 3 + 2, 1, 2, 3, 1, 2);
        good("COPY over itself", ints(1, 2, 1, 2, 3, 2, 5), 4 + 6 + 3 + 5, 1, 2, 1, 2, 1, 2, 1);
        good("COPY 0", ints(1, 1, 5, 3, 1, 0), 4 + 4 + 3, 5);
        good("NOTE", ints(5, 2, 1, 1), 4 + 4);
        good("NOTE 0", ints(5, 0), 4 + 2);
        good("AGAIN", ints(1, 2, 1, 2, 6, 0, 2, 1, 9, 6, 1), 4 + 6 + 4 + 4 + 6,
            1, 2, 1, 2, 9, 1, 2, 1, 2);
        good("AGAIN of nothing", ints(5, 0, 6, 0), 4 + 2 + 2);
        good("NEST", Due.nest(Due.pack(1, 1, 8)), 4 + 3 + 4 + 4, 8);
        good("NEST of no ITEM", Due.nest(Due.pack()), 4 + 3 + 4);
        good("a long NEST", Due.nest(Due.pack(Due.join(ints(5, 255), Due.times(255, 4), ints(1, 1, 8)))),
            4 + 3 + 4 + 257 + 4, 8);
    }

    private static void goodCodes() {
        good("CODED, one code", ints(7, 1, 65, 1, 3, 0), 4 + 5 + 6, 65, 65, 65);
        good("CODED, one code among three", ints(7, 3, 65, 66, 67, 0, 1, 0, 9, 0, 0), 4 + 9 + 18,
            66, 66, 66, 66, 66, 66, 66, 66, 66);
        good("CODED, n 0", ints(7, 2, 65, 66, 1, 1, 0), 4 + 7);
        // a 10, b 0, c 110, d 111; b a c d b: 0 10 110 111 0
        good("CODED, four", ints(7, 4, 97, 98, 99, 100, 2, 1, 3, 3, 5, 0b01011011, 0b10000000), 4 + 11 + 10,
            98, 97, 99, 100, 98);
        // all of length 3, a code over two bytes: 7 6 5 4
        good("CODED, eight", ints(7, 8, 0, 1, 2, 3, 4, 5, 6, 7, 3, 3, 3, 3, 3, 3, 3, 3, 4, 0b11111010, 0b11000000),
            4 + 19 + 8, 7, 6, 5, 4);
        // lengths 7 7 6 5 4 3 2 1: the first one is 1111110
        good("CODED, long codes", ints(7, 8, 10, 11, 12, 13, 14, 15, 16, 17, 7, 7, 6, 5, 4, 3, 2, 1, 3,
            0b11111101, 0b11111100), 4 + 19 + 6, 10, 11, 17);
        good("CODED, a full last byte", ints(7, 2, 1, 2, 1, 1, 8, 0b10101011), 4 + 7 + 16, 2, 1, 2, 1, 2, 1, 2, 2);
        good("CODED, the same SYMBOL twice", ints(7, 2, 5, 5, 1, 1, 2, 0b01000000), 4 + 7 + 4, 5, 5);
        good("two CODED", ints(7, 2, 1, 2, 1, 1, 1, 128, 7, 1, 9, 1, 1, 0), 4 + 9 + 7, 2, 9);
    }

    /** COPY and AGAIN see what came by their own PACK, and by those in it, but not what came ahead of it. */
    private static void windowsOfPacks() {
        int[] inner = Due.nest(Due.pack(1, 2, 5, 6));
        good("COPY behind a NEST", Due.join(inner, ints(3, 2, 1)), 4 + 3 + 4 + 6 + 4, 5, 6, 5);
        good("AGAIN of a NEST", Due.join(ints(1, 1, 4), inner, ints(6, 1)), 4 + 4 + 3 + 4 + 6 + 5, 4, 5, 6, 4, 5, 6);
        good("AGAIN in a NEST", Due.join(ints(1, 1, 4), Due.nest(Due.pack(2, 1, 7, 6, 0)), ints(6, 0)),
            4 + 4 + 3 + 4 + 4 + 3 + 3, 4, 7, 7, 4);
        int[] copyAbove = Due.pack(Due.join(ints(2, 9, 1), Due.nest(Due.pack(2, 1, 7, 3, 2, 1))));
        bad("COPY out of its PACK", copyAbove, 4, 14, 4 + 12 + 3 + 4 + 4, 1, 1, 1, 1, 1, 1, 1, 1, 1, 7);
        int[] againAbove = Due.pack(Due.join(ints(2, 1, 1, 5, 0), Due.nest(Due.pack(2, 1, 7, 6, 1))));
        bad("AGAIN out of its PACK", againAbove, 5, 16, 4 + 4 + 2 + 3 + 4 + 4, 1, 7);
    }

    private static void marks() {
        bad("first mark", ints(81, 75, 0, 155), 1, 0, 4);
        bad("second mark", ints(80, 76, 0, 155), 1, 1, 4);
        bad("both marks", ints(0, 0, 0, 0), 1, 0, 4);
        bad("first mark alone", ints(7), 1, 0, 4);
        bad("mark of a NEST", Due.pack(4, 0, 4, 80, 74, 0, 154), 1, 6, 4 + 3 + 4);
    }

    private static void kinds() {
        bad("KIND 8", Due.pack(8), 2, 2, 4);
        bad("KIND 255", Due.pack(2, 1, 1, 255), 2, 5, 4 + 4, 1);
        bad("KIND in a NEST", Due.pack(Due.nest(Due.pack(8))), 2, 7, 4 + 3 + 4);
    }

    private static void lacks() {
        bad("nothing", ints(), 3, 0, 4);
        bad("one mark", ints(80), 3, 1, 4);
        bad("two marks", ints(80, 75), 3, 2, 4);
        bad("no CHECK", ints(80, 75, 0), 3, 3, 4);
        bad("STORED without n", ints(80, 75, 1), 3, 3, 4);
        bad("STORED without its last byte", ints(80, 75, 1, 3, 1, 1), 3, 6, 4);
        bad("STORED with all and no end", ints(80, 75, 1, 3, 1, 1, 1), 3, 7, 4 + 8, 1, 1, 1);
        bad("RUN without n", ints(80, 75, 2), 3, 3, 4);
        bad("RUN without its byte", ints(80, 75, 2, 3), 3, 4, 4);
        bad("COPY without d", ints(80, 75, 2, 1, 5, 3), 3, 6, 4 + 4, 5);
        bad("COPY without n", ints(80, 75, 2, 1, 5, 3, 1), 3, 7, 4 + 4, 5);
        bad("NEST without h", ints(80, 75, 4), 3, 3, 4);
        bad("NEST without l", ints(80, 75, 4, 0), 3, 4, 4);
        bad("NEST without a byte", ints(80, 75, 4, 0, 4, 80, 75, 0), 3, 8, 4);
        bad("NEST without a byte, and bad", ints(80, 75, 4, 0, 4, 9, 9, 9), 3, 8, 4);
        bad("NEST with a high length", Due.pack(4, 1, 0, 80, 75, 0, 155), 3, 11, 4);
        bad("NEST of 0", Due.pack(4, 0, 0), 3, 5, 4 + 3 + 4);
        bad("NEST of 1", Due.pack(4, 0, 1, 80), 3, 6, 4 + 3 + 4);
        bad("NEST that ends early", Due.pack(4, 0, 3, 80, 75, 0, 155), 3, 8, 4 + 3 + 4);
        bad("STORED beyond a NEST", Due.pack(4, 0, 5, 80, 75, 1, 2, 1, 1, 1, 1), 3, 10, 4 + 3 + 4);
        bad("NEST beyond a NEST", Due.pack(4, 0, 6, 80, 75, 4, 0, 2, 1, 1, 1), 3, 11, 4 + 3 + 4);
        bad("NOTE without n", ints(80, 75, 5), 3, 3, 4);
        bad("NOTE without a byte", ints(80, 75, 5, 2, 1), 3, 5, 4);
        bad("AGAIN without k", ints(80, 75, 5, 0, 6), 3, 5, 4 + 2);
        bad("CODED without m", ints(80, 75, 7), 3, 3, 4);
        bad("CODED without SYMBOLS", ints(80, 75, 7, 2, 1), 3, 5, 4);
        bad("CODED without LENGTHS", ints(80, 75, 7, 2, 1, 2, 1), 3, 7, 4);
        bad("CODED without n", ints(80, 75, 7, 2, 1, 2, 1, 1), 3, 8, 4);
        bad("CODED without bits", ints(80, 75, 7, 2, 1, 2, 1, 1, 1), 3, 9, 4 + 7 + 2);
        bad("CODED without all bits", ints(80, 75, 7, 2, 1, 2, 1, 1, 10, 3), 3, 10, 4 + 7 + 20,
            1, 1, 1, 1, 1, 1, 2, 2);
        bad("CODED, a code over the end", Due.pack(4, 0, 14, 80, 75, 7, 4, 1, 2, 3, 4, 1, 2, 3, 3, 4, 0b11111011),
            3, 19, 4 + 3 + 4 + 11 + 8, 4, 3);
    }

    private static void distancesAndFormers() {
        bad("COPY d 0", Due.pack(2, 1, 5, 3, 0, 1), 4, 6, 4 + 4, 5);
        bad("COPY d 2 of 1", Due.pack(2, 1, 5, 3, 2, 0), 4, 6, 4 + 4, 5);
        bad("COPY of nothing", Due.pack(3, 1, 1), 4, 3, 4);
        bad("COPY d, ahead of what lacks", ints(80, 75, 3, 1), 4, 3, 4);
        bad("AGAIN of itself", Due.pack(5, 0, 6, 1), 5, 5, 4 + 2);
        bad("AGAIN as the first", Due.pack(6, 0), 5, 3, 4);
        bad("AGAIN 255", Due.pack(6, 255), 5, 3, 4);
        good("AGAIN 255, a former one", Due.join(ints(2, 1, 3), Due.times(255, 5, 0), ints(6, 255)),
            4 + 4 + 510 + 3, 3, 3);
    }

    private static void tables() {
        bad("m 0", Due.pack(7, 0, 0), 6, 3, 4);
        bad("m 9", Due.pack(7, 9), 6, 3, 4);
        bad("LENGTH 8", Due.pack(7, 2, 1, 2, 1, 8, 0), 6, 7, 4);
        bad("LENGTH 8 ahead of what lacks", ints(80, 75, 7, 2, 1, 2, 8), 6, 6, 4);
        bad("sum below 1", Due.pack(7, 2, 1, 2, 1, 2, 0), 6, 6, 4);
        bad("sum above 1", Due.pack(7, 3, 1, 2, 3, 1, 1, 1, 0), 6, 7, 4);
        bad("sum a little above 1", Due.pack(7, 3, 1, 2, 3, 1, 1, 7, 0), 6, 7, 4);
        bad("one of 2", Due.pack(7, 1, 1, 2, 0), 6, 5, 4);
        bad("none above 0", Due.pack(7, 2, 1, 2, 0, 0, 0), 6, 6, 4);
        bad("THE TABLE, ahead of what lacks", ints(80, 75, 7, 2, 1, 2, 0, 0), 6, 6, 4);
    }

    private static void bits() {
        bad("no code", Due.pack(7, 1, 65, 1, 3, 0b00100000), 7, 7, 4 + 5 + 6, 65, 65);
        bad("no code at first", Due.pack(7, 1, 65, 1, 3, 0b10000000), 7, 7, 4 + 5 + 6);
        bad("no code in a later byte", Due.pack(7, 1, 65, 1, 10, 0, 128), 7, 8, 4 + 5 + 20,
            65, 65, 65, 65, 65, 65, 65, 65);
        bad("no code, and a byte lacks", ints(80, 75, 7, 1, 65, 1, 9, 1), 7, 7, 4 + 5 + 18, 65, 65, 65, 65, 65, 65, 65);
        bad("bits left", Due.pack(7, 1, 65, 1, 3, 0b00010000), 8, 7, 4 + 5 + 6, 65, 65, 65);
        bad("the last bit is left", Due.pack(7, 2, 1, 2, 1, 1, 7, 1), 8, 9, 4 + 7 + 14, 1, 1, 1, 1, 1, 1, 1);
        bad("bits left in a second byte", Due.pack(7, 2, 1, 2, 1, 1, 9, 255, 129), 8, 10, 4 + 7 + 18,
            2, 2, 2, 2, 2, 2, 2, 2, 2);
    }

    private static void checks() {
        int[] good = Due.pack(1, 1, 200);
        bad("CHECK", Due.with(good, 6, 9), 9, 6, 4 + 4, 200);
        bad("CHECK of a NEST", Due.pack(4, 0, 4, 80, 75, 0, 154), 9, 8, 4 + 3 + 4);
        bad("a byte behind", Due.join(good, ints(0)), 10, 7, 4 + 4, 200);
        bad("bytes behind", Due.join(good, ints(80, 75, 0, 155)), 10, 7, 4 + 4, 200);
        bad("a byte behind in a NEST", Due.pack(Due.nest(Due.join(good, ints(3)))), 10, 12, 4 + 3 + 4 + 4, 200);
        bad("CHECK, ahead of bytes behind", Due.join(Due.with(good, 6, 9), ints(0)), 9, 6, 4 + 4, 200);
    }

    private static void most() {
        int[] run = Due.pack(1, 1, 4, 2, 2, 9);
        DUE.opens("just MOST", run, Due.bounds(3, 20000, 8), 3, NONE, 4 + 4 + 5, 4, 9, 9);
        DUE.opens("above MOST", run, Due.bounds(2, 20000, 8), -21, 5, 4 + 4, 4);
        DUE.opens("MOST 0", run, Due.bounds(0, 20000, 8), -21, 2, 4);
        DUE.opens("MOST ahead of STEPS", run, Due.bounds(2, 12, 8), -21, 5, 4 + 4, 4);
        DUE.opens("COPY", Due.pack(1, 1, 4, 3, 1, 2), Due.bounds(2, 20000, 8), -21, 5, 4 + 4, 4);
        DUE.opens("AGAIN", Due.pack(1, 1, 4, 6, 0), Due.bounds(1, 20000, 8), -21, 5, 4 + 4, 4);
        DUE.opens("CODED, ahead of its bits", Due.pack(7, 1, 65, 1, 3, 255), Due.bounds(2, 20000, 8), -21, 2, 4);
        DUE.opens("in a NEST", Due.pack(Due.join(ints(1, 1, 4), Due.nest(run))), Due.bounds(3, 20000, 8),
            -21, 13, 4 + 4 + 3 + 4 + 4, 4, 4);
        DUE.opens("NOTE", Due.pack(1, 1, 4, 5, 2, 9, 9), Due.bounds(1, 20000, 8), 1, NONE, 4 + 4 + 4, 4);
        DUE.opens("what lacks, ahead of MOST", ints(80, 75, 1, 9, 1), Due.bounds(0, 20000, 8), -13, 5, 4);
        DUE.opens("d, ahead of MOST", Due.pack(3, 1, 9), Due.bounds(0, 20000, 8), -14, 3, 4);
    }

    private static void steps() {
        int[][] items = {ints(1, 2, 8, 8), ints(2, 3, 8), ints(5, 3, 8, 8, 8), ints(7, 1, 8, 1, 2, 0), ints(7, 1, 8, 1, 0)};
        int[] costs = {6, 6, 5, 9, 5};
        for (int i = 0; i < items.length; i++) {
            int[] tape = Due.pack(items[i]);
            Calls x = Due.taped(tape);
            String name = "KIND " + items[i][0];
            DUE.is(name + " just STEPS", 1, x.open(4000, 4 + costs[i], 0) >= 0 ? 1 : 0);
            DUE.is(name + " COST", 4 + costs[i], x.count(2));
            DUE.opens(name, tape, Due.bounds(4000, 3 + costs[i], 0), -22, 2, 4);
        }
        int[] copy = Due.pack(2, 1, 9, 3, 1, 4);
        DUE.opens("COPY just STEPS", copy, Due.bounds(9, 15, 0), 5, NONE, 15, 9, 9, 9, 9, 9);
        DUE.opens("COPY", copy, Due.bounds(9, 14, 0), -22, 5, 8, 9);
        int[] again = Due.pack(2, 2, 9, 6, 0);
        DUE.opens("AGAIN just STEPS", again, Due.bounds(9, 13, 0), 4, NONE, 13, 9, 9, 9, 9);
        DUE.opens("AGAIN", again, Due.bounds(9, 12, 0), -22, 5, 9, 9, 9);
        DUE.opens("what lacks, ahead of STEPS", ints(80, 75, 5, 9, 1), Due.bounds(9, 4, 0), -13, 5, 4);
        DUE.opens("k, ahead of STEPS", Due.pack(6, 3), Due.bounds(9, 4, 0), -15, 3, 4);
        DUE.opens("THE TABLE, ahead of STEPS", Due.pack(7, 1, 1, 2, 9), Due.bounds(9, 4, 0), -16, 5, 4);
    }

    private static void stepsOfPacks() {
        for (int steps = 0; steps < 4; steps++) {
            Calls x = DUE.opens("a PACK", ints(1, 2, 3), Due.bounds(9, steps, 0), -22, 0, 0);
            DUE.is("no PACK began", 0, x.count(4));
        }
        DUE.opens("a PACK of no bytes", ints(), Due.bounds(9, 3, 0), -22, 0, 0);
        int[] tape = Due.pack(Due.nest(Due.pack()));
        DUE.opens("a NEST", tape, Due.bounds(9, 6, 8), -22, 2, 4);
        for (int steps = 7; steps < 11; steps++) {
            Calls x = DUE.opens("the PACK in a NEST", tape, Due.bounds(9, steps, 8), -22, 5, 7);
            DUE.is("one PACK began", 1, x.count(4));
            DUE.is("it came not deep", 0, x.count(3));
        }
        DUE.opens("a NEST just STEPS", tape, Due.bounds(9, 11, 8), 0, NONE, 11);
        DUE.opens("a PACK, ahead of what lacks", Due.pack(4, 0, 0), Due.bounds(9, 7, 8), -22, 5, 7);
    }

    private static void depths() {
        int[] tape = Due.pack(1, 1, 9);
        int[] both = Due.pack(Due.join(Due.nest(Due.pack(Due.nest(tape))), Due.nest(tape)));
        Calls x = DUE.opens("just DEEP", both, Due.bounds(9, 999, 2), 2, NONE, 4 + 3 + 4 + 3 + 4 + 4 + 3 + 4 + 4, 9, 9);
        DUE.is("how deep", 2, x.count(3));
        DUE.is("PACKS", 4, x.count(4));
        x = DUE.opens("above DEEP", both, Due.bounds(9, 999, 1), -23, 7, 4 + 3 + 4);
        DUE.is("how deep", 1, x.count(3));
        DUE.is("PACKS", 2, x.count(4));
        x = DUE.opens("DEEP 0", both, Due.bounds(9, 999, 0), -23, 2, 4);
        DUE.is("how deep", 0, x.count(3));
        DUE.is("PACKS", 1, x.count(4));
        DUE.opens("STEPS, ahead of DEEP", both, Due.bounds(9, 6, 0), -22, 2, 4);
        DUE.opens("DEEP, ahead of the PACK's STEPS", both, Due.bounds(9, 7, 0), -23, 2, 4);
        DUE.opens("what lacks, ahead of DEEP", ints(80, 75, 4, 0, 9, 80), Due.bounds(9, 999, 0), -13, 6, 4);
        DUE.opens("DEEP, ahead of what is in it", Due.pack(4, 0, 1, 9), Due.bounds(9, 999, 0), -23, 2, 4);
        int[] behind = Due.pack(Due.join(ints(1, 1, 9), Due.nest(tape)));
        DUE.opens("DEEP, behind an ITEM", behind, Due.bounds(9, 999, 0), -23, 5, 4 + 4, 9);
        for (int i = 0; i < 9; i++) {
            tape = Due.pack(Due.nest(tape));
        }
        DUE.opens("9 deep", tape, WIDE, -23, 42, 8 * 7 + 4);
    }

    private static void firstOfTwoFaults() {
        bad("KIND, ahead of CHECK", Due.with(Due.pack(9, 1), 5, 0), 2, 2, 4);
        bad("mark, ahead of KIND", Due.with(Due.pack(9, 1), 1, 0), 1, 1, 4);
        bad("the NEST's, ahead of the outer CHECK", Due.with(Due.pack(4, 0, 4, 80, 75, 0, 1), 10, 0), 9, 8, 11);
    }

    private static void wrongNumbers() {
        Calls x = Due.taped(Due.pack(1, 1, 7));
        DUE.is("open", 1, x.open(4000, 20000, 8));
        String was = Due.picture(x);
        int low = Integer.MIN_VALUE;
        int high = Integer.MAX_VALUE;
        int[][] wrong = {{-1, 0, 0}, {4001, 0, 0}, {0, -1, 0}, {0, 20001, 0}, {0, 0, -1}, {0, 0, 9},
            {low, 0, 0}, {high, 0, 0}, {0, low, 0}, {0, high, 0}, {0, 0, low}, {0, 0, high}};
        for (int[] w : wrong) {
            DUE.is("open OUTSIDE", OUTSIDE, x.open(w[0], w[1], w[2]));
            DUE.is("shrink OUTSIDE", OUTSIDE, x.shrink(w[0], w[1], w[2]));
        }
        DUE.is("nothing changed", 1, was.equals(Due.picture(x)) ? 1 : 0);
        for (int i : new int[] {-1, 1, 4000, low, high}) {
            DUE.is("out(" + i + ")", NONE, x.out(i));
        }
        for (int what : new int[] {-1, 7, low, high}) {
            DUE.is("count(" + what + ")", NONE, x.count(what));
        }
    }

    private static void counts() {
        Calls x = Due.taped(Due.pack(Due.join(ints(1, 2, 7, 8), Due.nest(Due.pack(2, 3, 1)))));
        x.open(1, 1, 1);
        x.open(4000, 4001, 9);
        DUE.is("open", 5, x.open(10, 100, 1));
        int[] want = {18, 5, 4 + 6 + 3 + 4 + 6, 1, 2, 0, 2};
        for (int what = 0; what < want.length; what++) {
            DUE.is("count(" + what + ")", want[what], x.count(what));
        }
        x.alter(17, 0);
        DUE.is("open", -19, x.open(10, 100, 1));
        DUE.is("FAULT", 9, x.count(5));
        DUE.is("place", 17, x.place());
        DUE.is("READS", 3, x.count(6));
        x.mend();
        DUE.is("open", 5, x.open(10, 100, 1));
        DUE.is("no FAULT", 0, x.count(5));
        DUE.is("no place", NONE, x.place());
    }

    private static void largest() {
        Calls x = Due.taped(Due.pack(Due.times(598, 5, 0)));
        DUE.is("598 NOTES", 0, x.open(0, 1200, 0));
        DUE.is("598 NOTES", 598, x.item(NONE, 0));
        x.cut(1198);
        DUE.is("NOTES to the end", -13, x.open(0, 1200, 0));
        DUE.is("place", 1198, x.place());
        x.feed(2, 0x0500);
        DUE.is("NOTES up to byte 1200", -13, x.open(0, 1202, 0));
        DUE.is("599 NOTES", 599, x.item(NONE, 0));
        Due.lay(x, Due.pack(Due.join(Due.times(15, 2, 255, 6), ints(2, 175, 7))));
        DUE.is("4000 bytes", 4000, x.open(4000, 20000, 0));
        DUE.is("the last one", 7, x.out(3999));
        DUE.is("none behind", NONE, x.out(4000));
        DUE.is("4000 of 3999", -21, x.open(3999, 20000, 0));
        Due.lay(x, Due.pack(Due.join(Due.times(20, 2, 200, 1))));
        DUE.is("20 RUNS of 200", 4000, x.open(4000, 4 + 20 * 203, 0));
    }
}
