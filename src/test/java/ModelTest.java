import java.util.ArrayList;
import java.util.List;
import java.util.Random;

/** Runs of calls on packs that are drawn, altered and cut, each looked at against the model. */
public final class ModelTest {
    private static final Due DUE = new Due();
    private static final int[] SEEN = new int[14];
    private static final Random RANDOM = new Random(20261116);

    public static void main(String[] args) {
        for (int run = 0; run < 1500; run++) {
            oneRun(run);
        }
        for (int fault = 0; fault < SEEN.length; fault++) {
            DUE.is("FAULT " + fault + " was met often", 1, SEEN[fault] > 20 ? 1 : 0);
        }
        DUE.end();
    }

    private static int upTo(int n) {
        return RANDOM.nextInt(n + 1);
    }

    private static void oneRun(int run) {
        Calls x = new Calls(RANDOM.nextLong());
        Model model = new Model(0);
        for (int call = 0; call < 12; call++) {
            if (RANDOM.nextInt(3) > 0) {
                layOrDraw(x);
            }
            for (int i = upTo(2); i > 0; i--) {
                alter(x);
            }
            model.tape = tape(x);
            int most = RANDOM.nextBoolean() ? 4000 : upTo(60);
            int steps = RANDOM.nextBoolean() ? 20000 : upTo(150);
            int deep = RANDOM.nextBoolean() ? 8 : upTo(2);
            String name = "run " + run + " call " + call + " tape " + model.tape + " bounds "
                + most + " " + steps + " " + deep;
            if (RANDOM.nextInt(3) > 0) {
                DUE.is(name + ": open", model.open(most, steps, deep), x.open(most, steps, deep));
                SEEN[model.fault]++;
            } else {
                DUE.is(name + ": shrink", model.shrink(most, steps, deep), x.shrink(most, steps, deep));
            }
            DUE.is(name + ": the same picture", 1, picture(model).equals(Due.picture(x)) ? 1 : 0);
        }
    }

    private static List<Integer> tape(Calls x) {
        List<Integer> tape = new ArrayList<>();
        for (int b : Due.tapeOf(x)) {
            tape.add(b);
        }
        return tape;
    }

    private static void layOrDraw(Calls x) {
        if (RANDOM.nextBoolean()) {
            x.draw(RANDOM.nextInt(10), upTo(RANDOM.nextBoolean() ? 60 : 9));
        } else {
            Due.lay(x, Due.pack(someItems(3)));
        }
    }

    private static void alter(Calls x) {
        int size = x.count(0);
        int i = RANDOM.nextInt(size + 1);
        switch (RANDOM.nextInt(6)) {
            case 0: x.alter(i, upTo(255)); break;
            case 1: x.alter(i, x.at(i) + RANDOM.nextInt(3) - 1); break;
            case 2: x.alter(i, upTo(8)); break;
            case 3: x.cut(Math.max(0, size - upTo(5))); break;
            case 4: x.feed(1, RANDOM.nextLong()); break;
            default: break;
        }
        if (RANDOM.nextInt(3) == 0) {
            x.mend();
        }
    }

    private static int[] someItems(int depth) {
        int[] items = {};
        int came = 0;
        for (int i = 0, n = upTo(5); i < n; i++) {
            int many = upTo(5);
            came += many;
            switch (RANDOM.nextInt(7)) {
                case 0: items = Due.join(items, Due.bytes(1, many), RANDOM.ints(many, 0, 256).toArray()); break;
                case 1: items = Due.join(items, Due.bytes(2, many, upTo(255))); break;
                case 2: items = Due.join(items, Due.bytes(3, 1 + upTo(came), upTo(9))); break;
                case 3: items = Due.join(items, Due.bytes(5, many), RANDOM.ints(many, 0, 256).toArray()); break;
                case 4: items = Due.join(items, Due.bytes(6, upTo(i))); break;
                case 5: items = Due.join(items, coded()); break;
                default: items = Due.join(items, Due.nest(Due.pack(depth > 0 ? someItems(depth - 1) : new int[0])));
            }
        }
        return items;
    }

    /** Mostly a good TABLE, made by parting codes in two; the bits are any, with 0s or 1s in the last byte. */
    private static int[] coded() {
        List<Integer> lengths = new ArrayList<>(List.of(1));
        if (RANDOM.nextInt(4) > 0) {
            lengths.add(1);
            for (int i = upTo(6); i > 0; i--) {
                int parted = RANDOM.nextInt(lengths.size());
                int length = lengths.get(parted) + 1;
                if (length <= 7) {
                    lengths.set(parted, length);
                    lengths.add(RANDOM.nextInt(lengths.size() + 1), length);
                }
            }
        }
        while (lengths.size() < 8 && RANDOM.nextInt(3) == 0) {
            lengths.add(RANDOM.nextInt(lengths.size() + 1), 0);
        }
        int m = lengths.size();
        int n = upTo(12);
        int[] bits = new int[n == 0 ? 0 : 1 + upTo(2)];
        for (int i = 0; i < bits.length; i++) {
            bits[i] = i == bits.length - 1 || m == 1 ? (upTo(255) & 128 << upTo(1)) & 255 : upTo(255);
        }
        return Due.join(Due.bytes(7, m), RANDOM.ints(m, 0, 256).toArray(),
            lengths.stream().mapToInt(l -> l).toArray(), Due.bytes(n), bits);
    }

    private static String picture(Model model) {
        StringBuilder all = new StringBuilder();
        int[] counts = {model.tape.size(), model.out.size(), model.cost, model.deepest, model.begun, model.fault, model.reads};
        for (int count : counts) {
            all.append(count).append(' ');
        }
        all.append(model.place).append(" tape");
        model.tape.forEach(b -> all.append(' ').append(b));
        all.append(" out");
        model.out.forEach(b -> all.append(' ').append(b));
        all.append(" items");
        for (int[] item : model.items) {
            for (int what = 0; what < 4; what++) {
                all.append(' ').append(item[what]);
            }
        }
        return all.toString();
    }
}
