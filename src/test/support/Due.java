/** What the tests share: they count wrong answers, and make tapes. */
final class Due {
    private int wrong;

    void is(String call, long want, long got) {
        if (got != want) {
            wrong++;
            System.out.println(call + " answered " + got + ", due is " + want);
        }
    }

    void end() {
        System.out.println(wrong == 0 ? "all answers are as due" : wrong + " answers are not as due");
        if (wrong != 0) {
            System.exit(1);
        }
    }

    /** Opens tape and looks at the answer, the PLACE, the STEPS and OUT. */
    Calls opens(String name, int[] tape, int[] bounds, int answer, int place, int cost, int... out) {
        Calls x = taped(tape);
        is(name + ": open", answer, x.open(bounds[0], bounds[1], bounds[2]));
        is(name + ": place", place, x.place());
        is(name + ": cost", cost, x.count(2));
        is(name + ": size of OUT", out.length, x.count(1));
        for (int i = 0; i < out.length; i++) {
            is(name + ": out(" + i + ")", out[i], x.out(i));
        }
        is(name + ": out behind its end", BombFamilies.NONE, x.out(out.length));
        is(name + ": fault", answer < 0 ? -10 - answer : 0, x.count(5));
        return x;
    }

    static int[] bounds(int most, int steps, int deep) {
        return new int[] {most, steps, deep};
    }

    static Calls taped(int... tape) {
        Calls x = new Calls(0);
        lay(x, tape);
        return x;
    }

    static void lay(Calls x, int... tape) {
        x.cut(0);
        for (int i = 0; i < tape.length; i += 8) {
            int n = Math.min(8, tape.length - i);
            long w = 0;
            for (int j = 0; j < n; j++) {
                w = w << 8 | tape[i + j];
            }
            x.feed(n, w);
        }
    }

    static int[] tapeOf(Calls x) {
        int[] tape = new int[x.count(0)];
        for (int i = 0; i < tape.length; i++) {
            tape[i] = x.at(i);
        }
        return tape;
    }

    /** A good PACK of these ITEMS. */
    static int[] pack(int... items) {
        int[] pack = new int[items.length + 4];
        pack[0] = 80;
        pack[1] = 75;
        System.arraycopy(items, 0, pack, 2, items.length);
        int sum = 0;
        for (int b : pack) {
            sum += b;
        }
        pack[pack.length - 1] = sum % 256;
        return pack;
    }

    static int[] nest(int... pack) {
        return join(new int[] {4, pack.length / 256, pack.length % 256}, pack);
    }

    static int[] join(int[]... parts) {
        int n = 0;
        for (int[] part : parts) {
            n += part.length;
        }
        int[] all = new int[n];
        int at = 0;
        for (int[] part : parts) {
            System.arraycopy(part, 0, all, at, part.length);
            at += part.length;
        }
        return all;
    }

    static int[] bytes(int... bytes) {
        return bytes;
    }

    static int[] times(int n, int... part) {
        int[] all = new int[n * part.length];
        for (int i = 0; i < all.length; i++) {
            all[i] = part[i % part.length];
        }
        return all;
    }

    static int[] with(int[] tape, int i, int b) {
        int[] other = tape.clone();
        other[i] = b;
        return other;
    }

    static int[] first(int n, int[] tape) {
        return java.util.Arrays.copyOf(tape, n);
    }

    /** All that can be asked of an object without changing it. */
    static String picture(Calls x) {
        StringBuilder all = new StringBuilder();
        for (int what = 0; what < 7; what++) {
            all.append(x.count(what)).append(' ');
        }
        all.append(x.place()).append(" tape");
        for (int i = 0; i < x.count(0); i++) {
            all.append(' ').append(x.at(i));
        }
        all.append(" out");
        for (int i = 0; i < x.count(1); i++) {
            all.append(' ').append(x.out(i));
        }
        all.append(" items");
        for (int i = 0; i < x.item(-1, 0); i++) {
            for (int what = 0; what < 4; what++) {
                all.append(' ').append(x.item(i, what));
            }
        }
        return all.toString();
    }
}
