/** Promises 8, 9, 10, 13: open, place, out, count: each sentence that names an edge has a test of its own. */
public final class AnswerEdgeTest {
    private static final Due DUE = new Due();
    private static final int NONE = -1, OUTSIDE = -2, STATE = -3;

    public static void main(String[] args) {
        openTakesItsLeastAndMost();
        openAnswersOut();
        openAnswersTheFault();
        openForgetsTheOneBefore();
        placeOfTheLatestRead();
        placeWithoutAFault();
        placeOfNothingRead();
        outOfNothing();
        outToItsEnd();
        outStaysWithoutARead();
        countsBytesOfTape();
        countsBytesOfOut();
        countsStepsOfTheLatest();
        countsHowDeep();
        countsPacksBegun();
        countsTheFault();
        countsAllReads();
        countsNoOthers();
        DUE.end();
    }

    private static int[] ints(int... all) {
        return all;
    }

    /** "READ, MOST 0 .. 4000, STEPS 0 .. 20000, DEEP 0 .. 8" ... "OUTSIDE." */
    private static void openTakesItsLeastAndMost() {
        int[][] inside = {{0, 0, 0}, {0, 20000, 8}, {4000, 0, 8}, {4000, 20000, 0}, {4000, 20000, 8}};
        for (int[] b : inside) {
            Calls x = Due.taped(Due.pack());
            DUE.is("open", b[1] == 0 ? -22 : 0, x.open(b[0], b[1], b[2]));
            DUE.is("open: READS", 1, x.count(6));
            DUE.is("shrink", b[1] == 0 ? 4 : STATE, x.shrink(b[0], b[1], b[2]));
        }
        int[][] outside = {{-1, 0, 0}, {4001, 0, 0}, {0, -1, 0}, {0, 20001, 0}, {0, 0, -1}, {0, 0, 9}};
        for (int[] b : outside) {
            Calls x = Due.taped(Due.pack());
            DUE.is("open outside", OUTSIDE, x.open(b[0], b[1], b[2]));
            DUE.is("shrink outside", OUTSIDE, x.shrink(b[0], b[1], b[2]));
            DUE.is("outside: READS", 0, x.count(6));
        }
    }

    /** "how many bytes OUT has": from none to 4000. */
    private static void openAnswersOut() {
        DUE.is("none", 0, Due.taped(Due.pack()).open(4000, 20000, 8));
        DUE.is("one", 1, Due.taped(Due.pack(1, 1, 0)).open(4000, 20000, 8));
        int[] full = Due.pack(Due.join(Due.times(15, 2, 255, 6), ints(2, 175, 7)));
        DUE.is("4000", 4000, Due.taped(full).open(4000, 20000, 8));
    }

    /** "-10 less the FAULT": each of the 13. */
    private static void openAnswersTheFault() {
        int[][] tapes = {ints(1), Due.pack(8), ints(), Due.pack(3, 1, 1), Due.pack(6, 0), Due.pack(7, 0),
            Due.pack(7, 1, 9, 1, 1, 128), Due.pack(7, 1, 9, 1, 1, 1), ints(80, 75, 0, 0), ints(80, 75, 0, 155, 0),
            Due.pack(2, 3, 9), Due.pack(5, 2, 9, 9), Due.pack(Due.nest(Due.pack()))};
        for (int fault = 1; fault <= 13; fault++) {
            Calls x = Due.taped(tapes[fault - 1]);
            int answer = x.open(2, fault == 12 ? 7 : 20000, 0);
            DUE.is("FAULT " + fault, -10 - fault, answer);
            DUE.is("FAULT " + fault + ": count", fault, x.count(5));
        }
    }

    /** A READ begins anew: nothing of the one before stays. */
    private static void openForgetsTheOneBefore() {
        Calls x = Due.taped(Due.pack(Due.join(ints(1, 2, 7, 8), Due.nest(Due.pack(2, 3, 1)))));
        DUE.is("open", 5, x.open(10, 100, 1));
        DUE.is("without STEPS", -22, x.open(10, 3, 1));
        int[] want = {18, 0, 0, 0, 0, 12, 2};
        for (int what = 0; what < want.length; what++) {
            DUE.is("without STEPS: count(" + what + ")", want[what], x.count(what));
        }
        DUE.is("without STEPS: out", NONE, x.out(0));
        DUE.is("without STEPS: ITEMS", 0, x.item(NONE, 0));
        DUE.is("without STEPS: item", NONE, x.item(0, 0));
        DUE.is("once more", 5, x.open(10, 100, 1));
        DUE.is("once more: COST", 4 + 6 + 7 + 6, x.count(2));
        DUE.is("once more: PACKS", 2, x.count(4));
        DUE.is("once more: ITEMS", 2, x.item(NONE, 0));
    }

    /** "The PLACE of the latest READ's FAULT": on the TAPE as it was; 0 and 1200 are places. */
    private static void placeOfTheLatestRead() {
        Calls x = Due.taped(Due.pack(1, 1, 7, 8));
        x.open(9, 99, 0);
        DUE.is("of the first", 5, x.place());
        x.open(0, 99, 0);
        DUE.is("of the second", 2, x.place());
        x.open(4001, 99, 0);
        DUE.is("of one that is OUTSIDE", 2, x.place());
        x.cut(0);
        DUE.is("without a READ", 2, x.place());
        x.open(9, 99, 0);
        DUE.is("0", 0, x.place());
        Due.lay(x, Due.join(ints(80, 75), Due.times(599, 5, 0)));
        x.open(9, 20000, 0);
        DUE.is("1200", 1200, x.place());
    }

    /** "NONE: it had none" */
    private static void placeWithoutAFault() {
        Calls x = Due.taped(Due.pack(1, 1, 7));
        x.open(0, 99, 0);
        DUE.is("with a FAULT", 2, x.place());
        x.open(9, 99, 0);
        DUE.is("without one", NONE, x.place());
        x.open(0, 99, 0);
        x.shrink(9, 99, 0);
        DUE.is("shrink that is STATE", NONE, x.place());
    }

    /** "or nothing was READ" */
    private static void placeOfNothingRead() {
        Calls x = new Calls(1);
        DUE.is("new", NONE, x.place());
        x.draw(0, 9);
        x.open(-1, 0, 0);
        x.shrink(0, 0, 9);
        DUE.is("drawn", NONE, x.place());
    }

    /** "Byte i of OUT; NONE": nothing was READ, or nothing came. */
    private static void outOfNothing() {
        Calls x = new Calls(1);
        DUE.is("new", NONE, x.out(0));
        Due.lay(x, Due.pack(5, 1, 9));
        x.open(9, 99, 0);
        DUE.is("nothing came", NONE, x.out(0));
        DUE.is("nothing came, -1", NONE, x.out(-1));
    }

    /** "Byte i of OUT; NONE": the first, the last, and one beside each. */
    private static void outToItsEnd() {
        int[] full = Due.pack(Due.join(ints(1, 1, 5), Due.times(15, 2, 255, 6), ints(2, 173, 6), ints(1, 1, 255)));
        Calls x = Due.taped(full);
        DUE.is("open", 4000, x.open(4000, 20000, 0));
        DUE.is("-1", NONE, x.out(-1));
        DUE.is("0", 5, x.out(0));
        DUE.is("1", 6, x.out(1));
        DUE.is("3998", 6, x.out(3998));
        DUE.is("3999", 255, x.out(3999));
        DUE.is("4000", NONE, x.out(4000));
        DUE.is("lowest", NONE, x.out(Integer.MIN_VALUE));
        DUE.is("highest", NONE, x.out(Integer.MAX_VALUE));
        x.cut(0);
        Due.lay(x, Due.pack(1, 1, 5));
        x.open(4000, 20000, 0);
        DUE.is("what was there before", NONE, x.out(1));
    }

    private static void outStaysWithoutARead() {
        Calls x = Due.taped(Due.pack(1, 2, 5, 6));
        x.open(9, 99, 0);
        x.alter(4, 99);
        x.mend();
        x.feed(1, 1);
        x.draw(1, 1);
        x.open(0, 0, -1);
        DUE.is("OUT", 2, x.count(1));
        DUE.is("its first", 5, x.out(0));
        DUE.is("its last", 6, x.out(1));
    }

    /** "0 bytes of the TAPE": from none to 1200, with each call that changes them. */
    private static void countsBytesOfTape() {
        Calls x = new Calls(3);
        DUE.is("new", 0, x.count(0));
        x.feed(1, 1);
        DUE.is("one", 1, x.count(0));
        DUE.is("drawn", x.draw(9, 60), x.count(0));
        Due.lay(x, Due.times(1200, 1));
        DUE.is("full", 1200, x.count(0));
        x.cut(1199);
        DUE.is("cut", 1199, x.count(0));
        Due.lay(x, Due.pack(5, 0, 8));
        x.shrink(9, 99, 0);
        DUE.is("shrunk", 5, x.count(0));
    }

    /** "1 of OUT": with a FAULT, too. */
    private static void countsBytesOfOut() {
        Calls x = Due.taped(Due.pack(2, 3, 9, 2, 2, 9));
        DUE.is("not READ", 0, x.count(1));
        x.open(5, 99, 0);
        DUE.is("all", 5, x.count(1));
        x.open(4, 99, 0);
        DUE.is("with a FAULT", 3, x.count(1));
        x.open(2, 99, 0);
        DUE.is("none", 0, x.count(1));
    }

    /** "2 STEPS that the latest READ COST": never more than there are. */
    private static void countsStepsOfTheLatest() {
        int[] tape = Due.pack(Due.join(ints(2, 3, 9), Due.nest(Due.pack(5, 2, 9, 9)), ints(6, 0)));
        int[] marks = {4, 10, 13, 17, 21, 26};
        for (int steps = 0; steps <= 30; steps++) {
            Calls x = Due.taped(tape);
            x.open(99, steps, 8);
            int want = 0;
            for (int mark : marks) {
                want = mark <= steps ? mark : want;
            }
            DUE.is("COST with " + steps, want, x.count(2));
        }
        DUE.is("not READ", 0, Due.taped(tape).count(2));
    }

    /** "3 how deep it came (0: no NEST)" */
    private static void countsHowDeep() {
        Calls x = Due.taped(Due.pack(1, 1, 7));
        DUE.is("not READ", 0, x.count(3));
        x.open(9, 99, 8);
        DUE.is("no NEST", 0, x.count(3));
        int[] tape = Due.pack();
        for (int deep = 1; deep <= 8; deep++) {
            tape = Due.pack(Due.join(Due.nest(tape), Due.nest(Due.pack())));
            x = Due.taped(tape);
            DUE.is(deep + " deep: open", 0, x.open(0, 20000, deep));
            DUE.is(deep + " deep", deep, x.count(3));
        }
        x.open(0, 20000, 3);
        DUE.is("refused by DEEP 3", 3, x.count(3));
        x.open(0, 20000, 0);
        DUE.is("refused by DEEP 0", 0, x.count(3));
        Due.lay(x, Due.pack(Due.nest(1, 2, 3)));
        x.open(0, 20000, 8);
        DUE.is("with a FAULT in a NEST", 1, x.count(3));
        Due.lay(x, Due.pack(4, 0, 99));
        x.open(0, 20000, 8);
        DUE.is("of which bytes lack", 0, x.count(3));
    }

    /** "4 PACKS that it began" */
    private static void countsPacksBegun() {
        Calls x = Due.taped(Due.pack(Due.times(3, Due.nest(Due.pack(Due.nest(Due.pack()))))));
        DUE.is("not READ", 0, x.count(4));
        x.open(0, 20000, 2);
        DUE.is("seven", 7, x.count(4));
        x.open(0, 20000, 1);
        DUE.is("two with DEEP 1", 2, x.count(4));
        x.open(0, 20000, 0);
        DUE.is("one with DEEP 0", 1, x.count(4));
        x.cut(0);
        x.open(0, 20000, 0);
        DUE.is("one of no bytes", 1, x.count(4));
        Due.lay(x, Due.pack(Due.nest(9)));
        x.open(0, 20000, 1);
        DUE.is("two, one of them bad", 2, x.count(4));
    }

    /** "5 its FAULT (0)" */
    private static void countsTheFault() {
        Calls x = Due.taped(Due.pack(1, 1, 7));
        DUE.is("not READ", 0, x.count(5));
        x.open(0, 99, 0);
        DUE.is("11", 11, x.count(5));
        x.open(9, 99, 0);
        DUE.is("none", 0, x.count(5));
        x.shrink(0, 99, 0);
        DUE.is("of shrink()'s last", 11, x.count(5));
        x.shrink(9, 99, 0);
        DUE.is("of shrink() that is STATE", 0, x.count(5));
    }

    /** "6 READS in all (those of shrink(), too)" */
    private static void countsAllReads() {
        Calls x = Due.taped(Due.pack(5, 0, 5, 0, 8));
        DUE.is("none", 0, x.count(6));
        x.open(0, 99, 0);
        DUE.is("one", 1, x.count(6));
        x.open(0, 99, 9);
        DUE.is("OUTSIDE is none", 1, x.count(6));
        x.shrink(0, 99, 0);
        DUE.is("shrink of two ITEMS", 1 + 4, x.count(6));
        x.shrink(0, 99, 0);
        DUE.is("shrink of no ITEMS", 5 + 2, x.count(6));
        x.cut(0);
        x.shrink(0, 99, 0);
        DUE.is("shrink of no bytes", 7 + 2, x.count(6));
        Due.lay(x, Due.pack());
        x.shrink(0, 99, 0);
        DUE.is("shrink that is STATE", 9 + 1, x.count(6));
    }

    /** "NONE for others." */
    private static void countsNoOthers() {
        Calls x = Due.taped(Due.pack(1, 1, 7));
        for (int round = 0; round < 2; round++) {
            for (int what : ints(-1, -2, 7, 8, Integer.MIN_VALUE, Integer.MAX_VALUE)) {
                DUE.is("count(" + what + ")", NONE, x.count(what));
            }
            x.open(9, 99, 0);
        }
    }
}
