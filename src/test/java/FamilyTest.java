import java.math.BigInteger;
import java.util.ArrayList;
import java.util.List;

/** Promise 7: draw. The bytes are made here anew, with BigInteger for THE SEED. */
public final class FamilyTest {
    private static final Due DUE = new Due();
    private static final int OUTSIDE = -2;
    private static BigInteger seed;

    public static void main(String[] args) {
        for (long first : new long[] {0, 1, -1, 42, Long.MIN_VALUE, Long.MAX_VALUE, 0x123456789ABCDEFL}) {
            oneObjectDrawsAll(first);
        }
        cutsMayLeaveNothing();
        seedStaysWhenRefused();
        wrongNumbers();
        formsByHand();
        DUE.end();
    }

    private static int draw(int n) {
        BigInteger all = BigInteger.ONE.shiftLeft(64);
        seed = seed.multiply(new BigInteger("6364136223846793005")).add(new BigInteger("1442695040888963407")).mod(all);
        return seed.divide(BigInteger.ONE.shiftLeft(31)).mod(BigInteger.valueOf(n)).intValue();
    }

    private static void oneObjectDrawsAll(long first) {
        BombFamilies x = new BombFamilies(first);
        seed = BigInteger.valueOf(first);
        for (int size : new int[] {0, 1, 2, 7, 33, 60}) {
            for (int family = 0; family <= 9; family++) {
                List<Integer> want = made(family, size);
                String call = "seed " + first + " draw(" + family + ", " + size + ")";
                DUE.is(call, want.size(), x.draw(family, size));
                DUE.is(call + " bytes", want.size(), x.count(0));
                for (int i = 0; i < want.size(); i++) {
                    DUE.is(call + " at " + i, want.get(i), x.at(i));
                }
            }
        }
    }

    private static void add(List<Integer> to, int... bytes) {
        for (int b : bytes) {
            to.add(b);
        }
    }

    private static void addDrawn(List<Integer> to, int n) {
        for (int i = 0; i < n; i++) {
            to.add(draw(256));
        }
    }

    private static List<Integer> packOf(List<Integer> items) {
        List<Integer> pack = new ArrayList<>(List.of(80, 75));
        pack.addAll(items);
        pack.add(0);
        pack.add(pack.stream().mapToInt(b -> b).sum() % 256);
        return pack;
    }

    private static List<Integer> made(int family, int size) {
        List<Integer> items = new ArrayList<>();
        if (family == 0) {
            add(items, 1, 255);
            addDrawn(items, size);
        } else if (family == 1) {
            for (int i = 0; i < size; i++) {
                add(items, 2, 255, draw(256));
            }
        } else if (family == 2) {
            add(items, 1, 1, draw(256));
            for (int i = 0; i < size; i++) {
                add(items, 3, 1, 255);
            }
        } else if (family == 3) {
            add(items, 1, 1, draw(256));
            for (int i = 0; i < size; i++) {
                List<Integer> inner = packOf(items);
                items = new ArrayList<>(List.of(4, inner.size() / 256, inner.size() % 256));
                items.addAll(inner);
            }
        } else if (family == 4) {
            for (int i = 0; i < size; i++) {
                add(items, 5, 0);
            }
        } else if (family == 5) {
            add(items, 2, 1, draw(256));
            for (int i = 0; i < size; i++) {
                add(items, 6, i);
            }
        } else if (family == 6) {
            add(items, 7, 8, 0, 1, 2, 3, 4, 5, 6, 7);
            add(items, draw(8), draw(8), draw(8), draw(8), draw(8), draw(8), draw(8), draw(8), 0);
            for (int i = 0; i < size; i++) {
                add(items, 5, 0);
            }
        } else {
            for (int i = 0; i < size; i++) {
                addDrawnItem(items, i);
            }
        }
        List<Integer> pack = packOf(items);
        if (family == 7) {
            int keep = pack.size() - 1 - draw(4);
            return pack.subList(0, keep);
        }
        if (family == 8) {
            int last = pack.size() - 1;
            pack.set(last, pack.get(last) == 255 ? 0 : pack.get(last) + 1);
        }
        return pack;
    }

    private static void addDrawnItem(List<Integer> items, int many) {
        int form = draw(6);
        if (form == 0) {
            int n = 1 + draw(6);
            add(items, 1, n);
            addDrawn(items, n);
        } else if (form == 1) {
            add(items, 2, draw(20), draw(256));
        } else if (form == 2) {
            add(items, 3, 1 + draw(4), draw(12));
        } else if (form == 3) {
            int n = draw(4);
            add(items, 5, n);
            addDrawn(items, n);
        } else if (form == 4 && many > 0) {
            add(items, 6, draw(many));
        } else if (form == 4) {
            add(items, 1, 1, draw(256));
        } else {
            int n = draw(5);
            List<Integer> inner = new ArrayList<>(List.of(1, n));
            addDrawn(inner, n);
            inner = packOf(inner);
            add(items, 4, 0, inner.size());
            items.addAll(inner);
        }
    }

    /** An empty PACK has 4 bytes, and 1 to 4 of them go; a sum that is 255 becomes 0. */
    private static void cutsMayLeaveNothing() {
        boolean[] left = new boolean[5];
        boolean wrapped = false;
        BombFamilies x = new BombFamilies(3);
        for (int i = 0; i < 400; i++) {
            left[x.draw(7, 0)] = true;
            x.draw(8, 1);
            wrapped |= x.at(x.count(0) - 1) == 0;
        }
        for (int n = 0; n < 4; n++) {
            DUE.is("CUTS leaves " + n, 1, left[n] ? 1 : 0);
        }
        DUE.is("CUTS takes none", 0, left[4] ? 1 : 0);
        DUE.is("SUMS came around", 1, wrapped ? 1 : 0);
    }

    private static void seedStaysWhenRefused() {
        BombFamilies x = new BombFamilies(9);
        BombFamilies y = new BombFamilies(9);
        x.draw(-1, 5);
        x.draw(9, 61);
        x.open(1, 1, 1);
        x.feed(3, 1);
        DUE.is("the same draw", y.draw(0, 60), x.draw(0, 60));
        for (int i = 0; i < y.count(0); i++) {
            DUE.is("the same byte", y.at(i), x.at(i));
        }
    }

    private static void wrongNumbers() {
        BombFamilies x = Due.taped(1, 2, 3);
        int low = Integer.MIN_VALUE;
        int high = Integer.MAX_VALUE;
        for (int[] w : new int[][] {{-1, 0}, {10, 0}, {0, -1}, {0, 61}, {low, 0}, {high, 0}, {0, low}, {0, high}}) {
            DUE.is("draw(" + w[0] + ", " + w[1] + ")", OUTSIDE, x.draw(w[0], w[1]));
        }
        DUE.is("the TAPE stays", 3, x.count(0));
    }

    /** What each FAMILY is refused or READ for, told by hand. */
    private static void formsByHand() {
        BombFamilies x = new BombFamilies(1);
        x.draw(0, 60);
        DUE.is("LIES", -13, x.open(4000, 20000, 8));
        DUE.is("LIES place", 66, x.place());
        x.draw(1, 15);
        DUE.is("RUNS", 15 * 255, x.open(4000, 20000, 8));
        x.draw(1, 60);
        DUE.is("RUNS of 60", -21, x.open(4000, 20000, 8));
        x.draw(2, 15);
        DUE.is("OVERLAPS", 15 * 255 + 1, x.open(4000, 20000, 8));
        x.draw(3, 8);
        DUE.is("DEEP of 8", 1, x.open(4000, 20000, 8));
        DUE.is("DEEP of 60 has", 7 + 7 * 60, x.draw(3, 60));
        DUE.is("DEEP of 60", -23, x.open(4000, 20000, 8));
        DUE.is("DEEP of 60, place", 42, x.place());
        x.draw(4, 60);
        DUE.is("EMPTY", 0, x.open(0, 124, 0));
        x.draw(5, 11);
        DUE.is("AGAINS", 2048, x.open(4000, 20000, 0));
        x.draw(5, 12);
        DUE.is("AGAINS of 12", -21, x.open(4000, 20000, 0));
        x.draw(8, 60);
        int fault = x.open(4000, 20000, 8);
        DUE.is("SUMS are refused", 1, fault < 0 ? 1 : 0);
    }
}
