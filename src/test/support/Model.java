import java.util.ArrayList;
import java.util.HashMap;
import java.util.List;
import java.util.Map;

/** The document said a second time, with lists, texts of bits and exceptions. */
final class Model {
    private static final class Fault extends Exception {
        private static final long serialVersionUID = 1;
        final int number, place;

        Fault(int number, int place) {
            this.number = number;
            this.place = place;
        }
    }

    List<Integer> tape = new ArrayList<>();
    final List<Integer> out = new ArrayList<>();
    /** KIND, PLACE, what came, COST, the place behind it. */
    final List<int[]> items = new ArrayList<>();
    int cost, deepest, begun, fault, place = -1, reads;
    private int most, steps, deep;
    private final Families families;

    Model(long seed) {
        families = new Families(seed);
    }

    int feed(int n, long w) {
        if (n < 1 || n > 8) {
            return -2;
        }
        if (tape.size() + n > 1200) {
            return -4;
        }
        String digits = String.format("%016x", w);
        for (int i = 8 - n; i < 8; i++) {
            tape.add(Integer.parseInt(digits.substring(2 * i, 2 * i + 2), 16));
        }
        return tape.size();
    }

    int cut(int n) {
        if (n < 0 || n > tape.size()) {
            return -2;
        }
        int gone = tape.size() - n;
        tape = new ArrayList<>(tape.subList(0, n));
        return gone;
    }

    int alter(int i, int b) {
        return i < 0 || i >= tape.size() || b < 0 || b > 255 ? -2 : tape.set(i, b);
    }

    int mend() {
        if (tape.isEmpty()) {
            return -3;
        }
        tape.remove(tape.size() - 1);
        int last = tape.stream().mapToInt(b -> b).sum() % 256;
        tape.add(last);
        return last;
    }

    int draw(int family, int size) {
        if (family < 0 || family > 9 || size < 0 || size > 60) {
            return -2;
        }
        tape = new ArrayList<>(families.made(family, size));
        return tape.size();
    }

    int at(int i) {
        return i < 0 || i >= tape.size() ? -1 : tape.get(i);
    }

    int out(int i) {
        return i < 0 || i >= out.size() ? -1 : out.get(i);
    }

    int item(int i, int what) {
        if (i == -1) {
            return items.size();
        }
        return i < 0 || i >= items.size() || what < 0 || what > 3 ? -1 : items.get(i)[what];
    }

    int count(int what) {
        int[] counts = {tape.size(), out.size(), cost, deepest, begun, fault, reads};
        return what < 0 || what >= counts.length ? -1 : counts[what];
    }

    int open(int most, int steps, int deep) {
        if (most < 0 || most > 4000 || steps < 0 || steps > 20000 || deep < 0 || deep > 8) {
            return -2;
        }
        this.most = most;
        this.steps = steps;
        this.deep = deep;
        out.clear();
        items.clear();
        cost = 0;
        deepest = 0;
        begun = 0;
        fault = 0;
        place = -1;
        reads++;
        try {
            pack(0, tape.size(), 0);
            return out.size();
        } catch (Fault f) {
            fault = f.number;
            place = f.place;
            return -10 - fault;
        }
    }

    int shrink(int most, int steps, int deep) {
        int answer = open(most, steps, deep);
        if (answer == -2) {
            return -2;
        }
        if (answer >= 0) {
            return -3;
        }
        List<Integer> whole = tape;
        boolean[] gone = new boolean[whole.size()];
        List<int[]> tried = new ArrayList<>(items);
        for (int[] item : tried) {
            mark(gone, item, true);
            tape = without(whole, gone);
            if (open(most, steps, deep) != answer) {
                mark(gone, item, false);
            }
        }
        tape = without(whole, gone);
        open(most, steps, deep);
        return tape.size();
    }

    private static void mark(boolean[] gone, int[] item, boolean goes) {
        for (int i = item[1]; i < item[4]; i++) {
            gone[i] = goes;
        }
    }

    private static List<Integer> without(List<Integer> whole, boolean[] gone) {
        List<Integer> rest = new ArrayList<>();
        for (int i = 0; i < gone.length; i++) {
            if (!gone[i]) {
                rest.add(whole.get(i));
            }
        }
        return rest;
    }

    private int byteAt(int i, int end) throws Fault {
        need(i, 1, end);
        return tape.get(i);
    }

    private void need(int i, int n, int end) throws Fault {
        if (i + n > end) {
            throw new Fault(3, end);
        }
    }

    private void afford(int at, int come, int price) throws Fault {
        if (out.size() + come > most) {
            throw new Fault(11, at);
        }
        if (cost + price > steps) {
            throw new Fault(12, at);
        }
    }

    private void charge(int at, int come, int price) throws Fault {
        afford(at, come, price);
        cost += price;
    }

    private void pack(int from, int end, int depth) throws Fault {
        charge(from, 0, 4);
        begun++;
        deepest = Math.max(deepest, depth);
        if (byteAt(from, end) != 80) {
            throw new Fault(1, from);
        }
        if (byteAt(from + 1, end) != 75) {
            throw new Fault(1, from + 1);
        }
        int outBase = out.size();
        List<Integer> ends = new ArrayList<>();
        int at = from + 2;
        while (byteAt(at, end) != 0) {
            int cameAhead = out.size();
            int costAhead = cost;
            int behind = item(at, end, depth, outBase, ends);
            ends.add(out.size());
            if (depth == 0) {
                items.add(new int[] {tape.get(at), at, out.size() - cameAhead, cost - costAhead, behind});
            }
            at = behind;
        }
        int sum = tape.subList(from, at + 1).stream().mapToInt(b -> b).sum() % 256;
        if (byteAt(at + 1, end) != sum) {
            throw new Fault(9, at + 1);
        }
        if (at + 2 < end) {
            throw new Fault(10, at + 2);
        }
    }

    /** The place behind the ITEM. */
    private int item(int at, int end, int depth, int outBase, List<Integer> ends) throws Fault {
        int kind = tape.get(at);
        if (kind > 7) {
            throw new Fault(2, at);
        }
        int a = byteAt(at + 1, end);
        if (kind == 1 || kind == 5) {
            need(at + 2, a, end);
            charge(at, kind == 1 ? a : 0, 2 + a + (kind == 1 ? a : 0));
            if (kind == 1) {
                out.addAll(new ArrayList<>(tape.subList(at + 2, at + 2 + a)));
            }
            return at + 2 + a;
        }
        if (kind == 6) {
            if (a >= ends.size()) {
                throw new Fault(5, at + 1);
            }
            List<Integer> again = new ArrayList<>(out.subList(outBase, ends.get(a)));
            charge(at, again.size(), 2 + again.size());
            out.addAll(again);
            return at + 2;
        }
        if (kind == 7) {
            return coded(at, a, end);
        }
        if (kind == 3 && (a == 0 || a > out.size() - outBase)) {
            throw new Fault(4, at + 1);
        }
        int b = byteAt(at + 2, end);
        if (kind == 4) {
            int length = 256 * a + b;
            need(at + 3, length, end);
            afford(at, 0, 3);
            if (depth >= deep) {
                throw new Fault(13, at);
            }
            charge(at, 0, 3);
            pack(at + 3, at + 3 + length, depth + 1);
            return at + 3 + length;
        }
        int n = kind == 2 ? a : b;
        charge(at, n, 3 + n);
        for (int i = 0; i < n; i++) {
            out.add(kind == 2 ? b : out.get(out.size() - a));
        }
        return at + 3;
    }

    private int coded(int at, int m, int end) throws Fault {
        if (m < 1 || m > 8) {
            throw new Fault(6, at + 1);
        }
        need(at + 2, m, end);
        double sum = 0;
        int used = 0;
        for (int i = 0; i < m; i++) {
            int length = byteAt(at + 2 + m + i, end);
            if (length > 7) {
                throw new Fault(6, at + 2 + m + i);
            }
            used += length > 0 ? 1 : 0;
            sum += length > 0 ? Math.pow(2, -length) : 0;
        }
        if (sum != 1 && !(used == 1 && sum == 0.5)) {
            throw new Fault(6, at + 2 + m);
        }
        int n = byteAt(at + 2 + 2 * m, end);
        charge(at, n, 3 + 2 * m + 2 * n);
        return bits(codes(at + 2, m), n, at + 3 + 2 * m, end);
    }

    private Map<String, Integer> codes(int at, int m) {
        Map<String, Integer> codes = new HashMap<>();
        String last = null;
        for (int length = 1; length <= 7; length++) {
            for (int i = 0; i < m; i++) {
                if (tape.get(at + m + i) != length) {
                    continue;
                }
                String code = last == null ? "" : oneMore(last);
                last = code + "0".repeat(length - code.length());
                codes.put(last, tape.get(at + i));
            }
        }
        return codes;
    }

    private static String oneMore(String code) {
        int zero = code.lastIndexOf('0');
        return code.substring(0, zero) + "1" + "0".repeat(code.length() - zero - 1);
    }

    private int bits(Map<String, Integer> codes, int n, int at, int end) throws Fault {
        int bit = 0;
        for (int i = 0; i < n; i++) {
            int begins = at + bit / 8;
            String code = "";
            while (!codes.containsKey(code)) {
                code += byteAt(at + bit / 8, end) >> (7 - bit % 8) & 1;
                bit++;
                String sofar = code;
                if (codes.keySet().stream().noneMatch(c -> c.startsWith(sofar))) {
                    throw new Fault(7, begins);
                }
            }
            out.add(codes.get(code));
        }
        int last = at + bit / 8;
        if (bit % 8 != 0) {
            if ((tape.get(last) << bit % 8 & 255) != 0) {
                throw new Fault(8, last);
            }
            return last + 1;
        }
        return last;
    }
}
