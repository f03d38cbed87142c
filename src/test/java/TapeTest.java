/** Promises 1 to 6: a new object, feed, cut, alter, at, mend. */
public final class TapeTest {
    private static final Due DUE = new Due();
    private static final int NONE = -1, OUTSIDE = -2, STATE = -3, ROOM = -4;
    private static final int LOWEST = Integer.MIN_VALUE, HIGHEST = Integer.MAX_VALUE;

    public static void main(String[] args) {
        aNewObject();
        feeds();
        feedsTheLowestBytes();
        feedsUpToTheRoom();
        cuts();
        alters();
        tellsBytes();
        mends();
        refusalsChangeNothing();
        readsStayWhenTheTapeChanges();
        DUE.end();
    }

    /** "THE SEED; an empty TAPE and OUT; nothing was READ." */
    private static void aNewObject() {
        for (long seed : new long[] {0, 1, -1, Long.MIN_VALUE, Long.MAX_VALUE}) {
            Calls x = new Calls(seed);
            for (int what = 0; what <= 6; what++) {
                DUE.is("new: count " + what, 0, x.count(what));
            }
            DUE.is("new: place", NONE, x.place());
            DUE.is("new: at", NONE, x.at(0));
            DUE.is("new: out", NONE, x.out(0));
            DUE.is("new: items", 0, x.item(NONE, 0));
            DUE.is("new: item", NONE, x.item(0, 0));
        }
    }

    /** "come behind the TAPE: how many it has. OUTSIDE: n is not 1 .. 8" */
    private static void feeds() {
        Calls x = new Calls(5);
        DUE.is("feed 1", 1, x.feed(1, 0x1234));
        DUE.is("feed 1 takes the lowest byte", 0x34, x.at(0));
        DUE.is("feed 3", 4, x.feed(3, 0xFFFF010203L));
        DUE.is("feed 3 first", 1, x.at(1));
        DUE.is("feed 3 last", 3, x.at(3));
        DUE.is("feed 8", 12, x.feed(8, 0xFEDCBA9876543210L));
        int[] want = {0xFE, 0xDC, 0xBA, 0x98, 0x76, 0x54, 0x32, 0x10};
        for (int i = 0; i < 8; i++) {
            DUE.is("feed 8 byte " + i, want[i], x.at(4 + i));
        }
        DUE.is("feed 8 of -1", 20, x.feed(8, -1));
        DUE.is("a byte has no sign", 255, x.at(12));
        for (int n : new int[] {0, -1, 9, LOWEST, HIGHEST}) {
            DUE.is("feed " + n, OUTSIDE, x.feed(n, 1));
        }
        DUE.is("nothing came", 20, x.count(0));
    }

    /** "The n lowest bytes of w, the highest first": each n, of a w whose higher bytes are others. */
    private static void feedsTheLowestBytes() {
        long[] words = {0x8182838485868788L, 0, -1, Long.MIN_VALUE, Long.MAX_VALUE, 255, 256};
        for (long w : words) {
            for (int n = 1; n <= 8; n++) {
                Calls x = Due.taped(7);
                DUE.is("feed(" + n + ", " + w + ")", 1 + n, x.feed(n, w));
                DUE.is("the one ahead", 7, x.at(0));
                for (int i = 0; i < n; i++) {
                    DUE.is("feed(" + n + ", " + w + "): byte " + i, w >>> 8 * (n - 1 - i) & 255, x.at(1 + i));
                }
                DUE.is("none behind", NONE, x.at(1 + n));
            }
        }
    }

    /** "ROOM": 1200 bytes are taken, 1201 are not; the first is that n is OUTSIDE. */
    private static void feedsUpToTheRoom() {
        Calls x = new Calls(5);
        for (int i = 1; i <= 149; i++) {
            DUE.is("feed", 8 * i, x.feed(8, i));
        }
        DUE.is("feed 7", 1199, x.feed(7, 7));
        DUE.is("feed 2 behind 1199", ROOM, x.feed(2, 1));
        DUE.is("nothing came", 1199, x.count(0));
        DUE.is("feed 1 behind 1199", 1200, x.feed(1, 77));
        DUE.is("the last byte", 77, x.at(1199));
        DUE.is("feed 1 behind 1200", ROOM, x.feed(1, 1));
        DUE.is("feed 9 behind 1200", OUTSIDE, x.feed(9, 1));
        DUE.is("cut 8", 8, x.cut(1192));
        DUE.is("feed 8 again", 1200, x.feed(8, 1));
    }

    /** "The TAPE keeps its first n bytes: how many go. OUTSIDE.": all, some, none; of an empty TAPE. */
    private static void cuts() {
        Calls x = Due.taped(1, 2, 3, 4, 5);
        DUE.is("cut 6 of 5", OUTSIDE, x.cut(6));
        DUE.is("cut -1", OUTSIDE, x.cut(-1));
        DUE.is("cut lowest", OUTSIDE, x.cut(LOWEST));
        DUE.is("cut highest", OUTSIDE, x.cut(HIGHEST));
        DUE.is("cut 5 of 5", 0, x.cut(5));
        DUE.is("cut 3 of 5", 2, x.cut(3));
        DUE.is("what stays", 3, x.at(2));
        DUE.is("what went", NONE, x.at(3));
        DUE.is("cut 0", 3, x.cut(0));
        DUE.is("cut 0 of 0", 0, x.cut(0));
        DUE.is("cut 1 of 0", OUTSIDE, x.cut(1));
        Due.lay(x, Due.times(1200, 4));
        DUE.is("cut 1201 of 1200", OUTSIDE, x.cut(1201));
        DUE.is("cut 1200 of 1200", 0, x.cut(1200));
        DUE.is("cut 1199 of 1200", 1, x.cut(1199));
        DUE.is("cut 1 of 1199", 1198, x.cut(1));
        DUE.is("one is left", 1, x.count(0));
    }

    /** "Byte i of the TAPE becomes b (0 .. 255): what it was. OUTSIDE." */
    private static void alters() {
        Calls x = Due.taped(10, 20, 30);
        DUE.is("alter first", 10, x.alter(0, 255));
        DUE.is("alter first again", 255, x.alter(0, 0));
        DUE.is("alter last", 30, x.alter(2, 31));
        DUE.is("first", 0, x.at(0));
        DUE.is("second", 20, x.at(1));
        DUE.is("last", 31, x.at(2));
        int[][] wrong = {{3, 0}, {-1, 0}, {0, -1}, {0, 256}, {LOWEST, 0}, {HIGHEST, 0}, {0, LOWEST}, {0, HIGHEST}};
        for (int[] w : wrong) {
            DUE.is("alter " + w[0] + " " + w[1], OUTSIDE, x.alter(w[0], w[1]));
        }
        DUE.is("first is the same", 0, x.at(0));
        x.cut(2);
        DUE.is("alter what was cut", OUTSIDE, x.alter(2, 1));
        DUE.is("alter nothing", OUTSIDE, new Calls(0).alter(0, 0));
        Due.lay(x, Due.times(1200, 4));
        DUE.is("alter the last of a full TAPE", 4, x.alter(1199, 5));
        DUE.is("the last of a full TAPE", 5, x.at(1199));
        DUE.is("the one ahead of it", 4, x.at(1198));
        DUE.is("alter behind a full TAPE", OUTSIDE, x.alter(1200, 5));
    }

    /** "Byte i of the TAPE; NONE." */
    private static void tellsBytes() {
        Calls x = Due.taped(7, 8, 9);
        DUE.is("at 0", 7, x.at(0));
        DUE.is("at 2", 9, x.at(2));
        DUE.is("at 3", NONE, x.at(3));
        DUE.is("at -1", NONE, x.at(-1));
        DUE.is("at 1200", NONE, x.at(1200));
        DUE.is("at lowest", NONE, x.at(LOWEST));
        DUE.is("at highest", NONE, x.at(HIGHEST));
        DUE.is("at of nothing", NONE, new Calls(0).at(0));
        Due.lay(x, Due.join(Due.times(1199, 4), new int[] {5}));
        DUE.is("at 1198 of a full TAPE", 4, x.at(1198));
        DUE.is("at 1199 of a full TAPE", 5, x.at(1199));
        DUE.is("at 1200 of a full TAPE", NONE, x.at(1200));
    }

    /** "The last byte of the TAPE becomes the CHECK of those ahead: that. STATE: it has none." */
    private static void mends() {
        Calls x = new Calls(0);
        DUE.is("mend nothing", STATE, x.mend());
        Due.lay(x, 99);
        DUE.is("mend one byte", 0, x.mend());
        DUE.is("that byte", 0, x.at(0));
        Due.lay(x, 200, 100, 3);
        DUE.is("mend wraps", 44, x.mend());
        DUE.is("the last byte", 44, x.at(2));
        DUE.is("one ahead", 100, x.at(1));
        DUE.is("mend again", 44, x.mend());
        Due.lay(x, 255, 9);
        DUE.is("mend 255", 255, x.mend());
        Due.lay(x, 255, 1, 9);
        DUE.is("mend 256", 0, x.mend());
        Due.lay(x, 255, 2, 9);
        DUE.is("mend 257", 1, x.mend());
        Due.lay(x, Due.times(1200, 255));
        DUE.is("mend a full TAPE", 1199 * 255 % 256, x.mend());
    }

    private static void refusalsChangeNothing() {
        Calls x = Due.taped(Due.join(Due.pack(1, 2, 3, 4, 2, 9, 9, 6, 5), new int[] {1}));
        x.open(100, 100, 1);
        String was = Due.picture(x);
        x.feed(0, 1);
        x.feed(9, 1);
        x.cut(-1);
        x.cut(999);
        x.alter(0, 256);
        x.alter(99, 1);
        x.draw(10, 1);
        x.draw(1, 61);
        x.open(4001, 1, 1);
        x.shrink(1, -1, 1);
        x.item(99, 1);
        DUE.is("the same picture", 1, was.equals(Due.picture(x)) ? 1 : 0);
    }

    private static void readsStayWhenTheTapeChanges() {
        Calls x = Due.taped(Due.pack(1, 2, 3, 4, 8));
        x.open(100, 100, 1);
        x.cut(0);
        x.draw(1, 1);
        x.alter(2, 9);
        x.mend();
        DUE.is("the FAULT stays", 2, x.count(5));
        DUE.is("the PLACE stays", 6, x.place());
        DUE.is("OUT stays", 4, x.out(1));
        DUE.is("the ITEMS stay", 1, x.item(NONE, 0));
        DUE.is("their KIND stays", 1, x.item(0, 0));
        DUE.is("READS stay", 1, x.count(6));
    }
}
