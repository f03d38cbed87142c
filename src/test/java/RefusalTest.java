/**
 * "Refused, and nothing changes (but of a shrink() that is STATE: it was READ): OUTSIDE (a number is not as told),
 * STATE (as told), ROOM (the TAPE has 1200 bytes at most): the first of these." Each call, in each state.
 */
public final class RefusalTest {
    private static final Due DUE = new Due();
    private static final int NONE = -1, OUTSIDE = -2, STATE = -3, ROOM = -4;
    private static final int LOW = Integer.MIN_VALUE, HIGH = Integer.MAX_VALUE;
    private static final String[] STATES = {"new", "empty and READ", "good", "with a FAULT", "shrunk", "drawn", "full"};

    public static void main(String[] args) {
        for (int state = 0; state < STATES.length; state++) {
            feedOutside(state);
            cutOutside(state);
            alterOutside(state);
            drawOutside(state);
            boundsOutside(state);
            asksChangeNothing(state);
        }
        feedRoom();
        mendState();
        shrinkState();
        outsideAheadOfRoom();
        outsideAheadOfState();
        DUE.end();
    }

    private static Calls made(int state) {
        Calls x = new Calls(77);
        if (state == 1) {
            x.open(1, 9, 1);
        } else if (state == 2) {
            Due.lay(x, Due.pack(1, 2, 7, 8));
            x.open(9, 99, 1);
        } else if (state == 3) {
            Due.lay(x, Due.pack(1, 2, 7, 8, 8));
            x.open(9, 99, 1);
        } else if (state == 4) {
            Due.lay(x, Due.pack(2, 2, 7, 3, 2, 1, 9));
            x.shrink(9, 99, 1);
        } else if (state == 5) {
            x.draw(9, 20);
            x.open(4000, 20000, 8);
        } else if (state == 6) {
            Due.lay(x, Due.times(1200, 80));
            x.open(4000, 20000, 8);
        }
        return x;
    }

    /** What can be asked, and what THE SEED draws next: on an object of its own, as that changes the TAPE. */
    private static void unchanged(String name, int state, Calls x) {
        Calls y = made(state);
        DUE.is(name + ": nothing changed", 1, Due.picture(y).equals(Due.picture(x)) ? 1 : 0);
        y.draw(0, 4);
        x.draw(0, 4);
        for (int i = 0; i < 10; i++) {
            DUE.is(name + ": THE SEED is the same, byte " + i, y.at(i), x.at(i));
        }
    }

    private static void feedOutside(int state) {
        Calls x = made(state);
        for (int n : Due.bytes(0, -1, 9, 10, 1200, 1201, LOW, HIGH)) {
            DUE.is(STATES[state] + ": feed(" + n + ")", OUTSIDE, x.feed(n, 0x0102030405060708L));
        }
        unchanged(STATES[state] + ": feed", state, x);
    }

    private static void cutOutside(int state) {
        Calls x = made(state);
        int size = x.count(0);
        for (int n : Due.bytes(-1, LOW, size + 1, 1201, HIGH)) {
            DUE.is(STATES[state] + ": cut(" + n + ")", OUTSIDE, x.cut(n));
        }
        unchanged(STATES[state] + ": cut", state, x);
    }

    private static void alterOutside(int state) {
        Calls x = made(state);
        int size = x.count(0);
        for (int i : Due.bytes(-1, LOW, size, size + 1, 1200, HIGH)) {
            DUE.is(STATES[state] + ": alter(" + i + ", 7)", OUTSIDE, x.alter(i, 7));
        }
        for (int b : Due.bytes(-1, 256, LOW, HIGH)) {
            DUE.is(STATES[state] + ": alter(0, " + b + ")", OUTSIDE, x.alter(0, b));
            DUE.is(STATES[state] + ": alter of the last, " + b, OUTSIDE, x.alter(size - 1, b));
        }
        unchanged(STATES[state] + ": alter", state, x);
    }

    private static void drawOutside(int state) {
        Calls x = made(state);
        for (int family : Due.bytes(-1, 10, LOW, HIGH)) {
            DUE.is(STATES[state] + ": draw(" + family + ", 0)", OUTSIDE, x.draw(family, 0));
            DUE.is(STATES[state] + ": draw(" + family + ", 61)", OUTSIDE, x.draw(family, 61));
        }
        for (int family = 0; family <= 9; family++) {
            for (int size : Due.bytes(-1, 61, LOW, HIGH)) {
                DUE.is(STATES[state] + ": draw(" + family + ", " + size + ")", OUTSIDE, x.draw(family, size));
            }
        }
        unchanged(STATES[state] + ": draw", state, x);
    }

    private static void boundsOutside(int state) {
        Calls x = made(state);
        int[][] wrong = {{-1, 9, 1}, {4001, 9, 1}, {LOW, 9, 1}, {HIGH, 9, 1}, {9, -1, 1}, {9, 20001, 1}, {9, LOW, 1},
            {9, HIGH, 1}, {9, 9, -1}, {9, 9, 9}, {9, 9, LOW}, {9, 9, HIGH}, {-1, -1, -1}, {4001, 20001, 9}};
        for (int[] w : wrong) {
            String call = "(" + w[0] + ", " + w[1] + ", " + w[2] + ")";
            DUE.is(STATES[state] + ": open" + call, OUTSIDE, x.open(w[0], w[1], w[2]));
            DUE.is(STATES[state] + ": shrink" + call, OUTSIDE, x.shrink(w[0], w[1], w[2]));
        }
        unchanged(STATES[state] + ": open, shrink", state, x);
    }

    /** at, out, item and count answer NONE where they tell nothing, and change nothing where they do. */
    private static void asksChangeNothing(int state) {
        Calls x = made(state);
        for (int i : Due.bytes(LOW, -2, -1, x.count(0), 1200, HIGH)) {
            DUE.is(STATES[state] + ": at(" + i + ")", NONE, x.at(i));
        }
        for (int i : Due.bytes(LOW, -2, -1, x.count(1), 4000, HIGH)) {
            DUE.is(STATES[state] + ": out(" + i + ")", NONE, x.out(i));
        }
        for (int i : Due.bytes(LOW, -2, x.item(NONE, 0), 599, 600, HIGH)) {
            DUE.is(STATES[state] + ": item(" + i + ", 0)", NONE, x.item(i, 0));
        }
        for (int what : Due.bytes(LOW, -2, -1, 7, HIGH)) {
            DUE.is(STATES[state] + ": count(" + what + ")", NONE, x.count(what));
        }
        x.place();
        unchanged(STATES[state] + ": what is asked", state, x);
    }

    /** "ROOM (the TAPE has 1200 bytes at most)": each n at the last place where it is taken, and one behind. */
    private static void feedRoom() {
        for (int n = 1; n <= 8; n++) {
            Calls x = new Calls(1);
            Due.lay(x, Due.times(1200 - n, 3));
            DUE.is("feed(" + n + ") up to 1200", 1200, x.feed(n, -1));
            DUE.is("feed(" + n + ") up to 1200: the last", 255, x.at(1199));
            DUE.is("feed(1) behind 1200", ROOM, x.feed(1, 9));
            x = new Calls(1);
            Due.lay(x, Due.times(1201 - n, 3));
            String was = Due.picture(x);
            DUE.is("feed(" + n + ") up to 1201", ROOM, x.feed(n, -1));
            DUE.is("feed(" + n + ") up to 1201: nothing changed", 1, was.equals(Due.picture(x)) ? 1 : 0);
        }
    }

    /** "STATE: it has none." */
    private static void mendState() {
        DUE.is("mend of a new object", STATE, new Calls(5).mend());
        Calls x = made(2);
        x.cut(0);
        String was = Due.picture(x);
        DUE.is("mend of what was cut", STATE, x.mend());
        DUE.is("mend: nothing changed", 1, was.equals(Due.picture(x)) ? 1 : 0);
    }

    /** "(but of a shrink() that is STATE: it was READ)": the TAPE and THE SEED stay, the READ is kept. */
    private static void shrinkState() {
        Calls x = made(5);
        Calls y = made(5);
        Due.lay(x, Due.pack(2, 3, 6));
        Due.lay(y, Due.pack(2, 3, 6));
        DUE.is("shrink", STATE, x.shrink(3, 10, 0));
        DUE.is("open", 3, y.open(3, 10, 0));
        DUE.is("as if opened", 1, Due.picture(y).equals(Due.picture(x)) ? 1 : 0);
        DUE.is("READS", 2, x.count(6));
        DUE.is("THE SEED", y.draw(9, 60), x.draw(9, 60));
    }

    /** "the first of these": a full TAPE, and n that is none. */
    private static void outsideAheadOfRoom() {
        Calls x = made(6);
        DUE.is("feed(0) of a full TAPE", OUTSIDE, x.feed(0, 1));
        DUE.is("feed(9) of a full TAPE", OUTSIDE, x.feed(9, 1));
        DUE.is("feed(-1) of a full TAPE", OUTSIDE, x.feed(-1, 1));
        DUE.is("feed(8) of a full TAPE", ROOM, x.feed(8, 1));
    }

    /** "the first of these": no FAULT, and a bound that is none: it isn't READ. */
    private static void outsideAheadOfState() {
        Calls x = Due.taped(Due.pack());
        DUE.is("shrink outside of a good PACK", OUTSIDE, x.shrink(0, 20001, 0));
        DUE.is("it was not READ", 0, x.count(6));
        DUE.is("shrink of a good PACK", STATE, x.shrink(0, 20000, 0));
        DUE.is("it was READ", 1, x.count(6));
    }
}
