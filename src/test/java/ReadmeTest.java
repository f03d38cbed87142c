/** The example of README.md answers what stands there. */
public final class ReadmeTest {
    public static void main(String[] args) {
        Due due = new Due();
        BombFamilies x = new BombFamilies(42);
        due.is("draw", 105, x.draw(8, 20));
        due.is("open", -19, x.open(1000, 20000, 8));
        due.is("place", 104, x.place());
        due.is("bytes of OUT", 95, x.count(1));
        due.is("ITEMS", 20, x.item(BombFamilies.NONE, 0));
        due.is("shrink", 40, x.shrink(1000, 20000, 8));
        due.is("place behind shrink", 39, x.place());
        due.is("mend", 124, x.mend());
        due.is("open the mended one", 37, x.open(1000, 20000, 8));
        due.end();
    }
}
