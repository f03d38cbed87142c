import java.util.ArrayList;
import java.util.List;

/**
 * The face of BombFamilies for tests. The document promises 512 calls of one object: ahead of the next one
 * an object is made anew and led to the same state by the calls that change something.
 */
final class Calls {
    private static final int PROMISED = 512;

    private interface Call {
        int on(BombFamilies x);
    }

    private final long seed;
    private final List<Call> changes = new ArrayList<>();
    private final List<Integer> answers = new ArrayList<>();
    private BombFamilies x;
    private int made;

    Calls(long seed) {
        this.seed = seed;
        x = new BombFamilies(seed);
    }

    int feed(int n, long w) {
        return change(x -> x.feed(n, w));
    }

    int cut(int n) {
        return change(x -> x.cut(n));
    }

    int alter(int i, int b) {
        return change(x -> x.alter(i, b));
    }

    int at(int i) {
        return ask(x -> x.at(i));
    }

    int mend() {
        return change(x -> x.mend());
    }

    int draw(int family, int size) {
        return change(x -> x.draw(family, size));
    }

    int open(int most, int steps, int deep) {
        return change(x -> x.open(most, steps, deep));
    }

    int place() {
        return ask(x -> x.place());
    }

    int out(int i) {
        return ask(x -> x.out(i));
    }

    int item(int i, int what) {
        return ask(x -> x.item(i, what));
    }

    int shrink(int most, int steps, int deep) {
        return change(x -> x.shrink(most, steps, deep));
    }

    int count(int what) {
        return ask(x -> x.count(what));
    }

    private int change(Call call) {
        int answer = ask(call);
        changes.add(call);
        answers.add(answer);
        return answer;
    }

    private int ask(Call call) {
        if (made == PROMISED) {
            makeAnew();
        }
        made++;
        return call.on(x);
    }

    private void makeAnew() {
        if (changes.size() >= PROMISED) {
            throw new IllegalStateException("this test changes one object too often");
        }
        x = new BombFamilies(seed);
        made = changes.size();
        for (int i = 0; i < made; i++) {
            if (changes.get(i).on(x) != answers.get(i)) {
                throw new IllegalStateException("the same calls gave another answer");
            }
        }
    }
}
