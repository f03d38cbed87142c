/** Promises 11 and 12: item and shrink. */
public final class ItemTest {
    private static final Due DUE = new Due();
    private static final int NONE = -1, OUTSIDE = -2, STATE = -3;

    public static void main(String[] args) {
        tellsItems();
        tellsItemsReadToTheirEnds();
        wrongNumbers();
        itemsOfNothingRead();
        itemsOfThePackOnTheTape();
        itemsOfTheLatestRead();
        itemsOfShrinksLast();
        nestCountsAllInIt();
        shrinkTakesItsBounds();
        shrinkOfNoItems();
        shrinkOfItemsReadToTheirEnds();
        shrinkFromTheFirstOn();
        shrinkGoesByTheNumberAlone();
        shrinkStaysWithoutThatFault();
        shrinkOfEachFault();
        shrinkReadsOnceMore();
        shrinksToTheFault();
        shrinkKeepsTheNumber();
        shrinkTriesTheFirstItems();
        shrinkOfNoFault();
        shrinkOfLargeItems();
        shrinkOfManyItems();
        DUE.end();
    }

    private static int[] ints(int... all) {
        return all;
    }

    private static void items(String name, Calls x, int[]... want) {
        DUE.is(name + ": how many", want.length, x.item(NONE, 0));
        for (int i = 0; i < want.length; i++) {
            for (int what = 0; what < 4; what++) {
                DUE.is(name + ": item(" + i + ", " + what + ")", want[i][what], x.item(i, what));
            }
        }
        DUE.is(name + ": behind the last", NONE, x.item(want.length, 0));
    }

    private static void tape(String name, Calls x, int... want) {
        DUE.is(name + ": bytes", want.length, x.count(0));
        for (int i = 0; i < want.length; i++) {
            DUE.is(name + ": at(" + i + ")", want[i], x.at(i));
        }
    }

    private static void tellsItems() {
        int[] inner = Due.nest(Due.pack(Due.join(ints(2, 4, 1), Due.nest(Due.pack(1, 1, 3)))));
        Calls x = Due.taped(Due.pack(Due.join(ints(1, 2, 7, 8), ints(2, 3, 9), ints(3, 1, 5), inner,
            ints(5, 2, 0, 0), ints(6, 1), ints(7, 2, 5, 6, 1, 1, 9, 255, 128), ints(5, 0))));
        DUE.is("open", 2 + 3 + 5 + 5 + 5 + 9, x.open(4000, 20000, 2));
        items("each KIND", x, ints(1, 2, 2, 6), ints(2, 6, 3, 6), ints(3, 9, 5, 8),
            ints(4, 12, 5, 3 + 4 + 7 + 3 + 4 + 4), ints(5, 32, 0, 4), ints(6, 36, 5, 7), ints(7, 38, 9, 7 + 18),
            ints(5, 47, 0, 2));
    }

    private static void tellsItemsReadToTheirEnds() {
        Calls x = Due.taped(Due.pack(Due.join(ints(1, 1, 7), Due.nest(Due.pack(2, 2, 2, 8)))));
        DUE.is("open", -12, x.open(100, 100, 3));
        items("a bad NEST", x, ints(1, 2, 1, 4));
        Due.lay(x, Due.pack(5, 0, 7, 1, 65, 1, 3, 16));
        DUE.is("open", -18, x.open(100, 100, 3));
        items("bits left", x, ints(5, 2, 0, 2));
        Due.lay(x, Due.with(Due.pack(1, 1, 7), 6, 0));
        DUE.is("open", -19, x.open(100, 100, 3));
        items("CHECK", x, ints(1, 2, 1, 4));
        DUE.is("open", -22, x.open(100, 3, 3));
        items("no STEPS", x);
        Due.lay(x);
        DUE.is("open", -13, x.open(100, 100, 3));
        items("nothing", x);
    }

    private static void wrongNumbers() {
        Calls x = Due.taped(Due.pack(1, 1, 7));
        x.open(100, 100, 3);
        int low = Integer.MIN_VALUE;
        int high = Integer.MAX_VALUE;
        for (int i : new int[] {1, -2, 599, 600, 601, low, high}) {
            DUE.is("item(" + i + ", 0)", NONE, x.item(i, 0));
        }
        for (int what : new int[] {4, -1, low, high}) {
            DUE.is("item(0, " + what + ")", NONE, x.item(0, what));
        }
        DUE.is("i = NONE asks for no other number", 1, x.item(NONE, 3));
    }

    /** "i = NONE: how many; NONE for others": nothing was READ. */
    private static void itemsOfNothingRead() {
        Calls x = new Calls(1);
        items("new", x);
        x.draw(9, 9);
        x.open(0, 0, 9);
        items("drawn", x);
    }

    /** "Of the i-th ITEM of the PACK on the TAPE": not of one in it. */
    private static void itemsOfThePackOnTheTape() {
        Calls x = Due.taped(Due.pack(Due.join(Due.nest(Due.pack(5, 0, 5, 0, 5, 0)), ints(2, 1, 9))));
        DUE.is("open", 1, x.open(9, 99, 1));
        items("behind a NEST", x, ints(4, 2, 0, 3 + 4 + 6), ints(2, 15, 1, 4));
        Due.lay(x, Due.pack(Due.nest(Due.pack(5, 0, 5, 0, 8))));
        DUE.is("open", -12, x.open(9, 99, 1));
        items("in a NEST that is bad", x);
    }

    /** "that was READ to its end by the latest open()" */
    private static void itemsOfTheLatestRead() {
        Calls x = Due.taped(Due.pack(2, 2, 9, 5, 0, 2, 3, 9));
        x.open(99, 99, 0);
        items("all", x, ints(2, 2, 2, 5), ints(5, 5, 0, 2), ints(2, 7, 3, 6));
        x.open(4, 99, 0);
        items("two with MOST 4", x, ints(2, 2, 2, 5), ints(5, 5, 0, 2));
        x.open(99, 9, 0);
        items("one with 9 STEPS", x, ints(2, 2, 2, 5));
        x.open(99, 9, 9);
        items("OUTSIDE is none", x, ints(2, 2, 2, 5));
        x.cut(0);
        items("without a READ", x, ints(2, 2, 2, 5));
        x.open(99, 99, 0);
        items("of no bytes", x);
        Due.lay(x, ints(80, 75, 2, 2, 9));
        x.open(99, 99, 0);
        items("READ to its end, and the TAPE ends there", x, ints(2, 2, 2, 5));
        x.cut(4);
        x.open(99, 99, 0);
        items("not READ to its end", x);
    }

    /** "(or shrink()'s last)": with the PLACES that they have then. */
    private static void itemsOfShrinksLast() {
        Calls x = Due.taped(Due.pack(5, 0, 2, 2, 9, 5, 0, 3, 2, 1, 3, 3, 0, 3, 9, 1));
        DUE.is("shrink to none", 4 + 3, x.shrink(99, 99, 0));
        items("shrunk to none", x);
        Due.lay(x, Due.pack(5, 0, 2, 2, 9, 2, 1, 8));
        DUE.is("shrink to one", 4 + 3 + 3, x.shrink(2, 99, 0));
        items("shrunk to one", x, ints(2, 2, 2, 5));
        x.mend();
        DUE.is("shrink that is STATE", STATE, x.shrink(3, 99, 0));
        items("STATE", x, ints(2, 2, 2, 5), ints(2, 5, 1, 4));
    }

    /** "2 how many bytes came by it (of NEST by all in it), 3 what it COST (likewise)" */
    private static void nestCountsAllInIt() {
        int[] inner = Due.pack(1, 1, 3);
        Calls x = Due.taped(Due.pack(Due.join(Due.nest(Due.pack()), Due.nest(inner), Due.nest(Due.pack(Due.join(Due.nest(inner),
            ints(6, 0), Due.nest(inner)))))));
        DUE.is("open", 1 + 3, x.open(9, 99, 2));
        items("NESTS", x, ints(4, 2, 0, 7), ints(4, 9, 1, 11), ints(4, 19, 3, 3 + 4 + 11 + 3 + 11));
    }

    /** "OUTSIDE as open()": the least and the most that are taken. */
    private static void shrinkTakesItsBounds() {
        for (int[] b : new int[][] {{0, 0, 0}, {4000, 20000, 8}}) {
            Calls x = Due.taped(9);
            DUE.is("shrink", 1, x.shrink(b[0], b[1], b[2]));
            DUE.is("FAULT", b[1] == 0 ? 12 : 1, x.count(5));
        }
        for (int[] b : new int[][] {{-1, 0, 0}, {4001, 0, 0}, {0, -1, 0}, {0, 20001, 0}, {0, 0, -1}, {0, 0, 9}}) {
            Calls x = Due.taped(9);
            DUE.is("shrink", OUTSIDE, x.shrink(b[0], b[1], b[2]));
            DUE.is("READS", 0, x.count(6));
        }
    }

    /** "of its ITEMS": there may be none. */
    private static void shrinkOfNoItems() {
        Calls x = new Calls(1);
        DUE.is("shrink of no bytes", 0, x.shrink(9, 99, 0));
        DUE.is("shrink of no bytes: READS", 2, x.count(6));
        DUE.is("shrink of no bytes: place", 0, x.place());
        Due.lay(x, ints(80, 75, 0, 0));
        DUE.is("shrink of a wrong CHECK", 4, x.shrink(9, 99, 0));
        DUE.is("shrink of a wrong CHECK: READS", 4, x.count(6));
        tape("shrink of a wrong CHECK", x, 80, 75, 0, 0);
    }

    /** "as they were READ to their ends": the one with the FAULT and those behind it stay. */
    private static void shrinkOfItemsReadToTheirEnds() {
        Calls x = Due.taped(Due.pack(5, 0, 3, 1, 1, 5, 0));
        DUE.is("shrink", 4 + 5, x.shrink(9, 99, 0));
        DUE.is("READS", 3, x.count(6));
        DUE.is("the one with the FAULT", 3, x.at(2));
        DUE.is("the one behind it", 5, x.at(5));
        Due.lay(x, Due.pack(Due.join(ints(5, 0), Due.nest(Due.pack(5, 0, 8)), ints(5, 0))));
        DUE.is("shrink of a NEST with the FAULT", 4 + 10 + 2, x.shrink(9, 99, 1));
        DUE.is("READS", 3 + 3, x.count(6));
    }

    /** "from the first on": of two, one of which is needed, the first goes. */
    private static void shrinkFromTheFirstOn() {
        Calls x = Due.taped(Due.pack(2, 1, 5, 2, 1, 6, 3, 1, 1, 8));
        // the COPY needs one of the RUNS as they are tried; then it goes itself
        DUE.is("shrink", 4 + 4, x.shrink(99, 99, 0));
        tape("shrink", x, 80, 75, 2, 1, 6, 8, 0, (80 + 75 + 8 + 9 + 5 + 8) % 256);
        DUE.is("READS", 1 + 3 + 1, x.count(6));
    }

    /** "if the TAPE without it is READ with a FAULT of the same number": at another PLACE, too. */
    private static void shrinkGoesByTheNumberAlone() {
        // without the RUN the first COPY is bad, just as the second one was
        Calls x = Due.taped(Due.pack(2, 1, 5, 3, 1, 1, 3, 9, 1));
        DUE.is("shrink", 4 + 3, x.shrink(99, 99, 0));
        tape("shrink", x, 80, 75, 3, 9, 1, 0, (80 + 75 + 8 + 5 + 13) % 256);
        DUE.is("place", 3, x.place());
        DUE.is("READS", 1 + 2 + 1, x.count(6));
    }

    /** "else it stays": the FAULT is another one, or there is none. */
    private static void shrinkStaysWithoutThatFault() {
        Calls x = Due.taped(Due.pack(2, 2, 5, 3, 2, 1, 8));
        DUE.is("another FAULT", 4 + 4, x.shrink(99, 99, 0));
        tape("another FAULT", x, 80, 75, 2, 2, 5, 8, 0, (80 + 75 + 9 + 6 + 8) % 256);
        // the bytes of the first RUN are 256 together: without it CHECK is still good
        int[] whole = Due.pack(2, 2, 252, 2, 1, 6);
        Due.lay(x, whole);
        DUE.is("no FAULT", whole.length, x.shrink(2, 99, 0));
        tape("no FAULT", x, whole);
        DUE.is("READS", 4 + 3, x.count(6));
    }

    /** "with a FAULT of the same number": each of them. */
    private static void shrinkOfEachFault() {
        int[] ahead = {5, 0, 2, 1, 9};
        int[][] rests = {Due.nest(1), ints(8), ints(1, 200, 9), ints(3, 9, 1), ints(6, 9), ints(7, 0),
            ints(7, 1, 65, 1, 4, 0b00100000), ints(7, 1, 65, 1, 3, 0b00010000), ints(), ints(5, 0), ints(2, 9, 9), ints(2, 9, 9),
            Due.nest(Due.pack())};
        for (int fault = 1; fault <= 13; fault++) {
            int[] whole = Due.pack(Due.join(ahead, rests[fault - 1]));
            int last = whole.length - 1;
            if (fault == 9) {
                whole = Due.with(whole, last, whole[last] + 1);
            } else if (fault == 10) {
                // the NOTE's bytes are 256 together: without it CHECK is still good
                whole = Due.join(Due.pack(5, 3, 200, 40, 8), ints(0));
            }
            int[] less = Due.join(ints(80, 75), java.util.Arrays.copyOfRange(whole, 7, whole.length));
            Calls x = Due.taped(whole);
            DUE.is("FAULT " + fault, less.length, x.shrink(fault == 11 ? 3 : 4000, fault == 12 ? 14 : 20000, fault == 13 ? 0 : 8));
            DUE.is("FAULT " + fault + ": its number", fault, x.count(5));
            DUE.is("FAULT " + fault + ": READS", fault == 10 ? 3 : 4, x.count(6));
            tape("FAULT " + fault, x, less);
        }
    }

    /** "At last it is READ once more": what the last try found is gone. */
    private static void shrinkReadsOnceMore() {
        Calls x = Due.taped(Due.pack(2, 2, 252, 2, 1, 6));
        x.shrink(2, 99, 0);
        Calls y = Due.taped(Due.pack(2, 2, 252, 2, 1, 6));
        y.open(2, 99, 0);
        DUE.is("FAULT", y.count(5), x.count(5));
        DUE.is("place", y.place(), x.place());
        DUE.is("STEPS", y.count(2), x.count(2));
        DUE.is("OUT", 2, x.count(1));
        DUE.is("out", 252, x.out(1));
        items("once more", x, ints(2, 2, 2, 5));
    }

    private static void shrinksToTheFault() {
        Calls x = Due.taped(Due.pack(1, 2, 7, 8, 2, 3, 9, 5, 1, 1, 8, 1, 1, 1));
        DUE.is("shrink of KIND 8", 8, x.shrink(100, 100, 0));
        tape("shrink of KIND 8", x, 80, 75, 8, 1, 1, 1, 0, (80 + 75 + 18 + 14 + 7 + 11) % 256);
        DUE.is("READS", 1 + 3 + 1, x.count(6));
        DUE.is("place", 2, x.place());
        DUE.is("FAULT", 2, x.count(5));
        DUE.is("OUT", 0, x.count(1));
        items("shrink of KIND 8", x);
        DUE.is("once more", 8, x.shrink(100, 100, 0));
        DUE.is("READS", 7, x.count(6));
    }

    /** The COPY needs a byte ahead of it: what brings that stays. */
    private static void shrinkKeepsTheNumber() {
        Calls x = Due.taped(Due.join(Due.pack(5, 0, 2, 1, 9, 3, 1, 2, 5, 1, 6), ints(1)));
        // without a NOTE of 0 bytes the CHECK is another, and so the FAULT
        DUE.is("shrink of a byte behind", 16, x.shrink(100, 100, 0));
        DUE.is("READS", 1 + 4 + 1, x.count(6));
        Due.lay(x, Due.with(Due.pack(5, 0, 2, 1, 9, 3, 1, 2, 5, 1, 6), 14, 0));
        DUE.is("shrink of a wrong CHECK", 7, x.shrink(100, 100, 0));
        tape("shrink of a wrong CHECK", x, 80, 75, 2, 1, 9, 0, 0);
        DUE.is("READS", 6 + 1 + 4 + 1, x.count(6));
        // MOST 3: the NOTE and the first RUN go, as the others are too many without them; the second RUN stays
        Due.lay(x, Due.pack(5, 0, 2, 2, 9, 2, 1, 8, 2, 3, 7));
        DUE.is("shrink of too many", 10, x.shrink(3, 100, 0));
        tape("shrink of too many", x, 80, 75, 2, 1, 8, 2, 3, 7, 0, (80 + 75 + 5 + 13 + 11 + 12) % 256);
        DUE.is("its ITEMS", 1, x.item(NONE, 0));
        DUE.is("its place", 5, x.place());
    }

    /** With fewer ahead of them more ITEMS are READ, but only those of the first READ are tried. */
    private static void shrinkTriesTheFirstItems() {
        Calls x = Due.taped(Due.pack(Due.times(6, 5, 0)));
        DUE.is("shrink with few STEPS", 12, x.shrink(0, 9, 0));
        DUE.is("READS", 1 + 2 + 1, x.count(6));
        DUE.is("FAULT", 12, x.count(5));
        Due.lay(x, Due.pack(Due.times(9, 2, 1, 4)));
        DUE.is("shrink of nine RUNS", 4 + 7 * 3, x.shrink(6, 20000, 0));
        DUE.is("READS", 4 + 1 + 6 + 1, x.count(6));
        DUE.is("FAULT", 11, x.count(5));
    }

    private static void shrinkOfNoFault() {
        Calls x = Due.taped(Due.pack(1, 2, 7, 8));
        DUE.is("shrink", STATE, x.shrink(100, 100, 0));
        DUE.is("it was READ", 1, x.count(6));
        DUE.is("OUT", 2, x.count(1));
        DUE.is("out", 8, x.out(1));
        DUE.is("STEPS", 10, x.count(2));
        DUE.is("TAPE", 8, x.count(0));
        items("no FAULT", x, ints(1, 2, 2, 6));
        DUE.is("a FAULT with less", 8, x.shrink(1, 100, 0));
        DUE.is("place", 2, x.place());
    }

    private static void shrinkOfLargeItems() {
        int[] large = Due.nest(Due.pack(Due.join(Due.times(4, Due.join(ints(5, 255), Due.times(255, 9))), ints(2, 9, 9))));
        Calls x = Due.taped(Due.pack(Due.join(large, ints(7, 2, 1, 2, 1, 1, 9, 255, 128), ints(9))));
        DUE.is("shrink of a long NEST and CODED", 5, x.shrink(4000, 20000, 8));
        DUE.is("at", 9, x.at(2));
        DUE.is("READS", 4, x.count(6));
        // a COPY of what only the NEST brings: the NEST stays
        Due.lay(x, Due.pack(Due.join(large, ints(5, 1, 3, 3, 9, 1), ints(9))));
        int was = x.count(0);
        DUE.is("shrink that keeps a NEST", was - 3 - 3, x.shrink(4000, 20000, 8));
    }

    private static void shrinkOfManyItems() {
        Calls x = Due.taped(Due.join(ints(80, 75), Due.times(599, 5, 0)));
        DUE.is("shrink of 599 NOTES", 2, x.shrink(0, 20000, 0));
        DUE.is("READS", 601, x.count(6));
        DUE.is("place", 2, x.place());
        Due.lay(x, Due.join(ints(80, 75), Due.times(599, 6, 0)));
        DUE.is("shrink of AGAINS", 1200, x.shrink(0, 20000, 0));
        DUE.is("place", 3, x.place());
        // the RUN has to come back to a full TAPE, as the COPIES are bad without it
        Due.lay(x, Due.join(ints(80, 75, 2, 1, 9), Due.times(398, 3, 1, 0), ints(8)));
        DUE.is("a full TAPE", 1200, x.count(0));
        DUE.is("shrink of COPIES", 6, x.shrink(4000, 20000, 0));
        tape("shrink of COPIES", x, 80, 75, 2, 1, 9, 8);
    }
}
