import java.util.List;

/** Terms 3 and promise 7: THE SEED, the FAMILIES, draw. */
public final class FamilyTest {
    private static final Due DUE = new Due();
    private static final int OUTSIDE = -2;

    public static void main(String[] args) {
        for (long first : new long[] {0, 1, -1, 42, Long.MIN_VALUE, Long.MAX_VALUE, 0x123456789ABCDEFL}) {
            oneObjectDrawsAll(first);
        }
        seedWrapsAndHasNoSign();
        tapeIsMadeAnew();
        leastSize();
        largestSize();
        againsRise();
        checksAreGood();
        cutsTakeOneToFour();
        sumsComeAround();
        drawnAgainWithoutAny();
        seedStaysWhenRefused();
        wrongNumbers();
        formsByHand();
        DUE.end();
    }

    private static void oneObjectDrawsAll(long first) {
        Calls x = new Calls(first);
        Families families = new Families(first);
        for (int size : new int[] {0, 1, 2, 7, 33, 60}) {
            for (int family = 0; family <= 9; family++) {
                List<Integer> want = families.made(family, size);
                String call = "seed " + first + " draw(" + family + ", " + size + ")";
                DUE.is(call, want.size(), x.draw(family, size));
                DUE.is(call + " bytes", want.size(), x.count(0));
                for (int i = 0; i < want.size(); i++) {
                    DUE.is(call + " at " + i, want.get(i), x.at(i));
                }
            }
        }
    }

    private static int[] drawn(long first, int family, int size) {
        Calls x = new Calls(first);
        x.draw(family, size);
        return Due.tapeOf(x);
    }

    private static void same(String name, int[] want, int[] got) {
        DUE.is(name + ": bytes", want.length, got.length);
        for (int i = 0; i < want.length && i < got.length; i++) {
            DUE.is(name + ": byte " + i, want[i], got[i]);
        }
    }

    private static int sum(int[] tape, int from, int end) {
        int sum = 0;
        for (int i = from; i < end; i++) {
            sum += tape[i];
        }
        return sum % 256;
    }

    /** "SEED * 6364136223846793005 + 1442695040888963407 (wrapping) ... the rest of SEED / 2^31, without a sign" */
    private static void seedWrapsAndHasNoSign() {
        int negative = 0;
        for (long first = -40; first < 40; first++) {
            long next = first * 6364136223846793005L + 1442695040888963407L;
            negative += next < 0 ? 1 : 0;
            int[] tape = drawn(first, 1, 1);
            DUE.is("seed " + first, Long.remainderUnsigned(Long.divideUnsigned(next, 1L << 31), 256), tape[4]);
        }
        DUE.is("some SEEDS are below 0", 1, negative > 10 && negative < 70 ? 1 : 0);
    }

    /** "FAMILIES make the TAPE anew": nothing stays of a longer one; none is too long for it. */
    private static void tapeIsMadeAnew() {
        for (int family = 0; family <= 9; family++) {
            Calls x = new Calls(4);
            Due.lay(x, Due.times(1200, 9));
            int n = x.draw(family, 60);
            DUE.is("bytes of " + family, n, x.count(0));
            DUE.is("not above 1200", 1, n <= 1200 ? 1 : 0);
            DUE.is("behind it", -1, x.at(n));
            same("FAMILY " + family, drawn(4, family, 60), Due.tapeOf(x));
        }
    }

    /** "by a SIZE N": with 0 there is just what stands around the N ones. */
    private static void leastSize() {
        int drawn = drawn(6, 1, 1)[4];
        same("LIES 0", Due.bytes(80, 75, 1, 255, 0, (155 + 256) % 256), drawn(6, 0, 0));
        same("RUNS 0", Due.pack(), drawn(6, 1, 0));
        same("OVERLAPS 0", Due.pack(1, 1, drawn), drawn(6, 2, 0));
        same("DEEP 0", Due.pack(1, 1, drawn), drawn(6, 3, 0));
        same("EMPTY 0", Due.pack(), drawn(6, 4, 0));
        same("AGAINS 0", Due.pack(2, 1, drawn), drawn(6, 5, 0));
        DUE.is("TABLES 0", 23, drawn(6, 6, 0).length);
        same("SUMS 0", Due.bytes(80, 75, 0, 156), drawn(6, 8, 0));
        same("DRAWN 0", Due.pack(), drawn(6, 9, 0));
    }

    /** "A FAMILY 0 .. 9 with a SIZE 0 .. 60: how many bytes the TAPE has." */
    private static void largestSize() {
        int[] want = {6 + 60, 4 + 180, 7 + 180, 7 + 420, 4 + 120, 7 + 120, 23 + 120};
        for (int family = 0; family < want.length; family++) {
            Calls x = new Calls(8);
            DUE.is("draw(" + family + ", 60)", want[family], x.draw(family, 60));
            DUE.is("draw(" + family + ", 61)", OUTSIDE, x.draw(family, 61));
            DUE.is("draw(" + family + ", 60): bytes", want[family], x.count(0));
        }
    }

    /** "5 AGAINS: ... N ITEMS 6, k, k from 0 on rising by 1" */
    private static void againsRise() {
        int[] tape = drawn(2, 5, 60);
        for (int k = 0; k < 60; k++) {
            DUE.is("AGAIN", 6, tape[5 + 2 * k]);
            DUE.is("its k", k, tape[6 + 2 * k]);
        }
        DUE.is("the end", 0, tape[125]);
    }

    /** "All others but 7, 8 are good in CHECK and NEST's lengths" (LIES says its CHECK itself). */
    private static void checksAreGood() {
        for (int size = 0; size <= 60; size++) {
            for (int family = 0; family <= 9; family++) {
                int[] tape = drawn(size, family, size);
                int last = tape.length - 1;
                if (family != 7) {
                    DUE.is(family + " by " + size, sum(tape, 0, last), family == 8 ? (tape[last] + 255) % 256 : tape[last]);
                }
            }
            int[] deep = drawn(size, 3, size);
            for (int i = 0; i < size; i++) {
                int length = deep[5 * i + 3] * 256 + deep[5 * i + 4];
                int from = 5 * i + 5;
                DUE.is("DEEP " + size + ": NEST " + i, deep.length - 7 * i - 7, length);
                DUE.is("DEEP " + size + ": CHECK " + i, sum(deep, from, from + length - 1), deep[from + length - 1]);
            }
        }
        Calls x = new Calls(1);
        x.draw(3, 36);
        DUE.is("a NEST of 252: h", 0, x.at(3));
        DUE.is("a NEST of 252: l", 252, x.at(4));
        x.draw(3, 37);
        DUE.is("a NEST of 259: h", 1, x.at(3));
        DUE.is("a NEST of 259: l", 3, x.at(4));
    }

    /** "7 CUTS: as 9, then the last 1 and DRAW(4) bytes go": of a PACK of 4 bytes even all. */
    private static void cutsTakeOneToFour() {
        for (int size : Due.bytes(0, 1, 60)) {
            boolean[] gone = new boolean[6];
            for (long first = 0; first < 60; first++) {
                int[] whole = drawn(first, 9, size);
                int[] cut = drawn(first, 7, size);
                same("CUTS", Due.first(cut.length, whole), cut);
                gone[Math.min(5, whole.length - cut.length)] = true;
            }
            for (int n = 0; n < 6; n++) {
                DUE.is("CUTS of " + size + " takes " + n, n >= 1 && n <= 4 ? 1 : 0, gone[n] ? 1 : 0);
            }
        }
    }

    /** "8 SUMS: as 9, then CHECK is 1 more (256: 0)" */
    private static void sumsComeAround() {
        int around = 0;
        for (long first = 0; first < 600; first++) {
            int[] whole = drawn(first, 9, 2);
            int last = whole.length - 1;
            around += whole[last] == 255 ? 1 : 0;
            same("SUMS", Due.with(whole, last, whole[last] == 255 ? 0 : whole[last] + 1), drawn(first, 8, 2));
        }
        DUE.is("some came around", 1, around > 0 ? 1 : 0);
    }

    /** "4: 6, DRAW(how many ITEMS there are), or without any 1, 1, DRAW(256)" */
    private static void drawnAgainWithoutAny() {
        int met = 0;
        for (int i = 0; i < 60; i++) {
            // far apart, as SEEDS that are near to one another draw alike at first
            long first = i * 0x9E3779B97F4A7C15L;
            Families families = new Families(first);
            if (families.draw(6) == 4) {
                met++;
                same("without any", Due.pack(1, 1, families.draw(256)), drawn(first, 9, 1));
            }
        }
        DUE.is("some are without any", 1, met > 0 ? 1 : 0);
    }

    private static void seedStaysWhenRefused() {
        Calls x = new Calls(9);
        Calls y = new Calls(9);
        x.draw(-1, 5);
        x.draw(9, 61);
        x.open(1, 1, 1);
        x.feed(3, 1);
        DUE.is("the same draw", y.draw(0, 60), x.draw(0, 60));
        for (int i = 0; i < y.count(0); i++) {
            DUE.is("the same byte", y.at(i), x.at(i));
        }
    }

    private static void wrongNumbers() {
        Calls x = Due.taped(1, 2, 3);
        int low = Integer.MIN_VALUE;
        int high = Integer.MAX_VALUE;
        for (int[] w : new int[][] {{-1, 0}, {10, 0}, {0, -1}, {0, 61}, {low, 0}, {high, 0}, {0, low}, {0, high}}) {
            DUE.is("draw(" + w[0] + ", " + w[1] + ")", OUTSIDE, x.draw(w[0], w[1]));
        }
        DUE.is("the TAPE stays", 3, x.count(0));
    }

    /** What each FAMILY is refused or READ for, told by hand. */
    private static void formsByHand() {
        Calls x = new Calls(1);
        x.draw(0, 60);
        DUE.is("LIES", -13, x.open(4000, 20000, 8));
        DUE.is("LIES place", 66, x.place());
        x.draw(1, 15);
        DUE.is("RUNS", 15 * 255, x.open(4000, 20000, 8));
        x.draw(1, 60);
        DUE.is("RUNS of 60", -21, x.open(4000, 20000, 8));
        x.draw(2, 15);
        DUE.is("OVERLAPS", 15 * 255 + 1, x.open(4000, 20000, 8));
        x.draw(3, 8);
        DUE.is("DEEP of 8", 1, x.open(4000, 20000, 8));
        DUE.is("DEEP of 60 has", 7 + 7 * 60, x.draw(3, 60));
        DUE.is("DEEP of 60", -23, x.open(4000, 20000, 8));
        DUE.is("DEEP of 60, place", 42, x.place());
        x.draw(4, 60);
        DUE.is("EMPTY", 0, x.open(0, 124, 0));
        x.draw(5, 11);
        DUE.is("AGAINS", 2048, x.open(4000, 20000, 0));
        x.draw(5, 12);
        DUE.is("AGAINS of 12", -21, x.open(4000, 20000, 0));
        x.draw(8, 60);
        int fault = x.open(4000, 20000, 8);
        DUE.is("SUMS are refused", 1, fault < 0 ? 1 : 0);
    }
}
