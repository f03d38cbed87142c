import java.util.Random;

/** Runs of 512 calls, with numbers at and beyond each edge, in any order: each answer is the model's, and none throws. */
public final class RunTest {
    private static final Due DUE = new Due();
    private static final int CALLS = 512;
    private static final int[] NUMBERS = {Integer.MIN_VALUE, -2, -1, 0, 1, 2, 3, 4, 7, 8, 9, 10, 59, 60, 61, 255, 256, 599,
        600, 1199, 1200, 1201, 3999, 4000, 4001, 19999, 20000, 20001, Integer.MAX_VALUE};
    private static final Random RANDOM = new Random(512);
    /** How often each answer below 0 was met, by what it is less than 0. */
    private static final int[] MET = new int[24];

    public static void main(String[] args) {
        for (int run = 0; run < 400; run++) {
            oneRun(run, RANDOM.nextLong() >> RANDOM.nextInt(64));
        }
        for (int i = 1; i < MET.length; i++) {
            DUE.is("-" + i + " was met", 1, i > 4 && i < 11 || MET[i] > 20 ? 1 : 0);
        }
        DUE.end();
    }

    private static void same(String call, int want, int got) {
        DUE.is(call, want, got);
        if (want < 0 && -want < MET.length) {
            MET[-want]++;
        }
    }

    private static void oneRun(int run, long seed) {
        BombFamilies x = new BombFamilies(seed);
        Model model = new Model(seed);
        // some runs fill the TAPE, others draw and spoil it
        boolean fills = run % 4 == 0;
        for (int call = 0; call < CALLS; call++) {
            oneCall("run " + run + " (seed " + seed + "), call " + call, fills, x, model);
        }
    }

    private static int number() {
        return NUMBERS[RANDOM.nextInt(NUMBERS.length)];
    }

    /** Mostly below n, as told; sometimes any number. */
    private static int upTo(int n) {
        return RANDOM.nextInt(8) == 0 ? number() : RANDOM.nextInt(n + 1);
    }

    private static int bound(int n) {
        switch (RANDOM.nextInt(8)) {
            case 0: return number();
            case 1: return 0;
            case 2: return RANDOM.nextInt(n + 1);
            case 3: return Math.min(n, RANDOM.nextInt(60));
            default: return n;
        }
    }

    /** NOTES to fill the TAPE, a PACK that begins with a CODED and some bits, or any bytes. */
    private static long word(boolean fills) {
        if (RANDOM.nextInt(3) == 0) {
            return RANDOM.nextLong();
        }
        return fills ? 0x0500050005000500L : 0x504B070141010300L + (1 << RANDOM.nextInt(8));
    }

    private static void oneCall(String name, boolean fills, BombFamilies x, Model model) {
        int a;
        int b;
        int c;
        switch (fills && RANDOM.nextInt(2) == 0 ? 0 : RANDOM.nextInt(24)) {
            case 0: case 1: case 2:
                a = fills && RANDOM.nextInt(8) > 0 ? 8 : upTo(8);
                long w = word(fills);
                same(name + ": feed(" + a + ", " + w + ")", model.feed(a, w), x.feed(a, w));
                break;
            case 3:
                a = fills ? Math.max(1190, number()) : RANDOM.nextInt(3) > 0 ? 0 : upTo(model.tape.size());
                same(name + ": cut(" + a + ")", model.cut(a), x.cut(a));
                break;
            case 4: case 5:
                a = upTo(model.tape.size());
                b = RANDOM.nextInt(3) == 0 ? upTo(255) : RANDOM.nextInt(9);
                same(name + ": alter(" + a + ", " + b + ")", model.alter(a, b), x.alter(a, b));
                break;
            case 6: case 7:
                same(name + ": mend()", model.mend(), x.mend());
                break;
            case 8: case 9: case 10:
                a = fills && RANDOM.nextInt(8) > 0 ? 10 : upTo(9);
                b = RANDOM.nextBoolean() ? upTo(9) : upTo(60);
                same(name + ": draw(" + a + ", " + b + ")", model.draw(a, b), x.draw(a, b));
                break;
            case 11: case 12: case 13: case 14:
                a = bound(4000);
                b = bound(20000);
                c = bound(8);
                same(name + ": open(" + a + ", " + b + ", " + c + ")", model.open(a, b, c), x.open(a, b, c));
                break;
            case 15: case 16:
                a = bound(4000);
                b = bound(20000);
                c = bound(8);
                same(name + ": shrink(" + a + ", " + b + ", " + c + ")", model.shrink(a, b, c), x.shrink(a, b, c));
                break;
            default:
                ask(name, x, model);
                break;
        }
    }

    private static void ask(String name, BombFamilies x, Model model) {
        int a;
        int b;
        switch (RANDOM.nextInt(6)) {
            case 0:
                a = upTo(model.tape.size());
                same(name + ": at(" + a + ")", model.at(a), x.at(a));
                break;
            case 1:
                a = upTo(model.out.size());
                same(name + ": out(" + a + ")", model.out(a), x.out(a));
                break;
            case 2: case 3:
                a = upTo(model.items.size()) - RANDOM.nextInt(2);
                b = upTo(3);
                same(name + ": item(" + a + ", " + b + ")", model.item(a, b), x.item(a, b));
                break;
            case 4:
                a = upTo(6);
                same(name + ": count(" + a + ")", model.count(a), x.count(a));
                break;
            default:
                same(name + ": place()", model.place, x.place());
                break;
        }
    }
}
