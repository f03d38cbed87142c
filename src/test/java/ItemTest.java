/** Promises 11 and 12: item and shrink. */
public final class ItemTest {
    private static final Due DUE = new Due();
    private static final int NONE = -1, STATE = -3;

    public static void main(String[] args) {
        tellsItems();
        tellsItemsReadToTheirEnds();
        wrongNumbers();
        shrinksToTheFault();
        shrinkKeepsTheNumber();
        shrinkTriesTheFirstItems();
        shrinkOfNoFault();
        shrinkOfLargeItems();
        shrinkOfManyItems();
        DUE.end();
    }

    private static int[] ints(int... all) {
        return all;
    }

    private static void items(String name, BombFamilies x, int[]... want) {
        DUE.is(name + ": how many", want.length, x.item(NONE, 0));
        for (int i = 0; i < want.length; i++) {
            for (int what = 0; what < 4; what++) {
                DUE.is(name + ": item(" + i + ", " + what + ")", want[i][what], x.item(i, what));
            }
        }
        DUE.is(name + ": behind the last", NONE, x.item(want.length, 0));
    }

    private static void tape(String name, BombFamilies x, int... want) {
        DUE.is(name + ": bytes", want.length, x.count(0));
        for (int i = 0; i < want.length; i++) {
            DUE.is(name + ": at(" + i + ")", want[i], x.at(i));
        }
    }

    private static void tellsItems() {
        int[] inner = Due.nest(Due.pack(Due.join(ints(2, 4, 1), Due.nest(Due.pack(1, 1, 3)))));
        BombFamilies x = Due.taped(Due.pack(Due.join(ints(1, 2, 7, 8), ints(2, 3, 9), ints(3, 1, 5), inner,
            ints(5, 2, 0, 0), ints(6, 1), ints(7, 2, 5, 6, 1, 1, 9, 255, 128), ints(5, 0))));
        DUE.is("open", 2 + 3 + 5 + 5 + 5 + 9, x.open(4000, 20000, 2));
        items("each KIND", x, ints(1, 2, 2, 6), ints(2, 6, 3, 6), ints(3, 9, 5, 8),
            ints(4, 12, 5, 3 + 4 + 7 + 3 + 4 + 4), ints(5, 32, 0, 4), ints(6, 36, 5, 7), ints(7, 38, 9, 7 + 18),
            ints(5, 47, 0, 2));
    }

    private static void tellsItemsReadToTheirEnds() {
        BombFamilies x = Due.taped(Due.pack(Due.join(ints(1, 1, 7), Due.nest(Due.pack(2, 2, 2, 8)))));
        DUE.is("open", -12, x.open(100, 100, 3));
        items("a bad NEST", x, ints(1, 2, 1, 4));
        Due.lay(x, Due.pack(5, 0, 7, 1, 65, 1, 3, 16));
        DUE.is("open", -18, x.open(100, 100, 3));
        items("bits left", x, ints(5, 2, 0, 2));
        Due.lay(x, Due.with(Due.pack(1, 1, 7), 6, 0));
        DUE.is("open", -19, x.open(100, 100, 3));
        items("CHECK", x, ints(1, 2, 1, 4));
        DUE.is("open", -22, x.open(100, 3, 3));
        items("no STEPS", x);
        Due.lay(x);
        DUE.is("open", -13, x.open(100, 100, 3));
        items("nothing", x);
    }

    private static void wrongNumbers() {
        BombFamilies x = Due.taped(Due.pack(1, 1, 7));
        x.open(100, 100, 3);
        int low = Integer.MIN_VALUE;
        int high = Integer.MAX_VALUE;
        for (int i : new int[] {1, -2, 599, 600, 601, low, high}) {
            DUE.is("item(" + i + ", 0)", NONE, x.item(i, 0));
        }
        for (int what : new int[] {4, -1, low, high}) {
            DUE.is("item(0, " + what + ")", NONE, x.item(0, what));
        }
        DUE.is("i = NONE asks for no other number", 1, x.item(NONE, 3));
    }

    private static void shrinksToTheFault() {
        BombFamilies x = Due.taped(Due.pack(1, 2, 7, 8, 2, 3, 9, 5, 1, 1, 8, 1, 1, 1));
        DUE.is("shrink of KIND 8", 8, x.shrink(100, 100, 0));
        tape("shrink of KIND 8", x, 80, 75, 8, 1, 1, 1, 0, (80 + 75 + 18 + 14 + 7 + 11) % 256);
        DUE.is("READS", 1 + 3 + 1, x.count(6));
        DUE.is("place", 2, x.place());
        DUE.is("FAULT", 2, x.count(5));
        DUE.is("OUT", 0, x.count(1));
        items("shrink of KIND 8", x);
        DUE.is("once more", 8, x.shrink(100, 100, 0));
        DUE.is("READS", 7, x.count(6));
    }

    /** The COPY needs a byte ahead of it: what brings that stays. */
    private static void shrinkKeepsTheNumber() {
        BombFamilies x = Due.taped(Due.join(Due.pack(5, 0, 2, 1, 9, 3, 1, 2, 5, 1, 6), ints(1)));
        // without a NOTE of 0 bytes the CHECK is another, and so the FAULT
        DUE.is("shrink of a byte behind", 16, x.shrink(100, 100, 0));
        DUE.is("READS", 1 + 4 + 1, x.count(6));
        Due.lay(x, Due.with(Due.pack(5, 0, 2, 1, 9, 3, 1, 2, 5, 1, 6), 14, 0));
        DUE.is("shrink of a wrong CHECK", 7, x.shrink(100, 100, 0));
        tape("shrink of a wrong CHECK", x, 80, 75, 2, 1, 9, 0, 0);
        DUE.is("READS", 6 + 1 + 4 + 1, x.count(6));
        // MOST 3: the NOTE and the first RUN go, as the others are too many without them; the second RUN stays
        Due.lay(x, Due.pack(5, 0, 2, 2, 9, 2, 1, 8, 2, 3, 7));
        DUE.is("shrink of too many", 10, x.shrink(3, 100, 0));
        tape("shrink of too many", x, 80, 75, 2, 1, 8, 2, 3, 7, 0, (80 + 75 + 5 + 13 + 11 + 12) % 256);
        DUE.is("its ITEMS", 1, x.item(NONE, 0));
        DUE.is("its place", 5, x.place());
    }

    /** With fewer ahead of them more ITEMS are READ, but only those of the first READ are tried. */
    private static void shrinkTriesTheFirstItems() {
        BombFamilies x = Due.taped(Due.pack(Due.times(6, 5, 0)));
        DUE.is("shrink with few STEPS", 12, x.shrink(0, 9, 0));
        DUE.is("READS", 1 + 2 + 1, x.count(6));
        DUE.is("FAULT", 12, x.count(5));
        Due.lay(x, Due.pack(Due.times(9, 2, 1, 4)));
        DUE.is("shrink of nine RUNS", 4 + 7 * 3, x.shrink(6, 20000, 0));
        DUE.is("READS", 4 + 1 + 6 + 1, x.count(6));
        DUE.is("FAULT", 11, x.count(5));
    }

    private static void shrinkOfNoFault() {
        BombFamilies x = Due.taped(Due.pack(1, 2, 7, 8));
        DUE.is("shrink", STATE, x.shrink(100, 100, 0));
        DUE.is("it was READ", 1, x.count(6));
        DUE.is("OUT", 2, x.count(1));
        DUE.is("out", 8, x.out(1));
        DUE.is("STEPS", 10, x.count(2));
        DUE.is("TAPE", 8, x.count(0));
        items("no FAULT", x, ints(1, 2, 2, 6));
        DUE.is("a FAULT with less", 8, x.shrink(1, 100, 0));
        DUE.is("place", 2, x.place());
    }

    private static void shrinkOfLargeItems() {
        int[] large = Due.nest(Due.pack(Due.join(Due.times(4, Due.join(ints(5, 255), Due.times(255, 9))), ints(2, 9, 9))));
        BombFamilies x = Due.taped(Due.pack(Due.join(large, ints(7, 2, 1, 2, 1, 1, 9, 255, 128), ints(9))));
        DUE.is("shrink of a long NEST and CODED", 5, x.shrink(4000, 20000, 8));
        DUE.is("at", 9, x.at(2));
        DUE.is("READS", 4, x.count(6));
        // a COPY of what only the NEST brings: the NEST stays
        Due.lay(x, Due.pack(Due.join(large, ints(5, 1, 3, 3, 9, 1), ints(9))));
        int was = x.count(0);
        DUE.is("shrink that keeps a NEST", was - 3 - 3, x.shrink(4000, 20000, 8));
    }

    private static void shrinkOfManyItems() {
        BombFamilies x = Due.taped(Due.join(ints(80, 75), Due.times(599, 5, 0)));
        DUE.is("shrink of 599 NOTES", 2, x.shrink(0, 20000, 0));
        DUE.is("READS", 601, x.count(6));
        DUE.is("place", 2, x.place());
        Due.lay(x, Due.join(ints(80, 75), Due.times(599, 6, 0)));
        DUE.is("shrink of AGAINS", 1200, x.shrink(0, 20000, 0));
        DUE.is("place", 3, x.place());
        // the RUN has to come back to a full TAPE, as the COPIES are bad without it
        Due.lay(x, Due.join(ints(80, 75, 2, 1, 9), Due.times(398, 3, 1, 0), ints(8)));
        DUE.is("a full TAPE", 1200, x.count(0));
        DUE.is("shrink of COPIES", 6, x.shrink(4000, 20000, 0));
        tape("shrink of COPIES", x, 80, 75, 2, 1, 9, 8);
    }
}
