import java.math.BigInteger;
import java.util.ArrayList;
import java.util.List;

/** THE SEED and the FAMILIES said a second time, with BigInteger and lists; nothing wraps but by mod. */
final class Families {
    private BigInteger seed;

    Families(long first) {
        seed = BigInteger.valueOf(first);
    }

    int draw(int n) {
        BigInteger all = BigInteger.ONE.shiftLeft(64);
        seed = seed.multiply(new BigInteger("6364136223846793005")).add(new BigInteger("1442695040888963407")).mod(all);
        return seed.divide(BigInteger.ONE.shiftLeft(31)).mod(BigInteger.valueOf(n)).intValue();
    }

    private static void add(List<Integer> to, int... bytes) {
        for (int b : bytes) {
            to.add(b);
        }
    }

    private void addDrawn(List<Integer> to, int n) {
        for (int i = 0; i < n; i++) {
            to.add(draw(256));
        }
    }

    private static List<Integer> packOf(List<Integer> items) {
        List<Integer> pack = new ArrayList<>(List.of(80, 75));
        pack.addAll(items);
        pack.add(0);
        pack.add(pack.stream().mapToInt(b -> b).sum() % 256);
        return pack;
    }

    List<Integer> made(int family, int size) {
        List<Integer> items = new ArrayList<>();
        if (family == 0) {
            add(items, 1, 255);
            addDrawn(items, size);
        } else if (family == 1) {
            for (int i = 0; i < size; i++) {
                add(items, 2, 255, draw(256));
            }
        } else if (family == 2) {
            add(items, 1, 1, draw(256));
            for (int i = 0; i < size; i++) {
                add(items, 3, 1, 255);
            }
        } else if (family == 3) {
            add(items, 1, 1, draw(256));
            for (int i = 0; i < size; i++) {
                List<Integer> inner = packOf(items);
                items = new ArrayList<>(List.of(4, inner.size() / 256, inner.size() % 256));
                items.addAll(inner);
            }
        } else if (family == 4) {
            for (int i = 0; i < size; i++) {
                add(items, 5, 0);
            }
        } else if (family == 5) {
            add(items, 2, 1, draw(256));
            for (int i = 0; i < size; i++) {
                add(items, 6, i);
            }
        } else if (family == 6) {
            add(items, 7, 8, 0, 1, 2, 3, 4, 5, 6, 7);
            add(items, draw(8), draw(8), draw(8), draw(8), draw(8), draw(8), draw(8), draw(8), 0);
            for (int i = 0; i < size; i++) {
                add(items, 5, 0);
            }
        } else {
            for (int i = 0; i < size; i++) {
                addDrawnItem(items, i);
            }
        }
        List<Integer> pack = packOf(items);
        if (family == 7) {
            int keep = pack.size() - 1 - draw(4);
            return pack.subList(0, keep);
        }
        if (family == 8) {
            int last = pack.size() - 1;
            pack.set(last, pack.get(last) == 255 ? 0 : pack.get(last) + 1);
        }
        return pack;
    }

    private void addDrawnItem(List<Integer> items, int many) {
        int form = draw(6);
        if (form == 0) {
            int n = 1 + draw(6);
            add(items, 1, n);
            addDrawn(items, n);
        } else if (form == 1) {
            add(items, 2, draw(20), draw(256));
        } else if (form == 2) {
            add(items, 3, 1 + draw(4), draw(12));
        } else if (form == 3) {
            int n = draw(4);
            add(items, 5, n);
            addDrawn(items, n);
        } else if (form == 4 && many > 0) {
            add(items, 6, draw(many));
        } else if (form == 4) {
            add(items, 1, 1, draw(256));
        } else {
            int n = draw(5);
            List<Integer> inner = new ArrayList<>(List.of(1, n));
            addDrawn(inner, n);
            inner = packOf(inner);
            add(items, 4, 0, inner.size());
            items.addAll(inner);
        }
    }
}
