/**
 * The document read sentence by sentence: behind each says(..) are the values at the bounds that these words name, one
 * below and one above them. A sentence that no test quotes, or that is quoted and not tested, fails as well.
 */
public final class BoundsTest {
    private BoundsTest() {
    }

    public static void main(String[] args) {
        Check t = new Check();
        new FaceBounds(t).hold();
        new InputBounds(t).hold();
        new PathBounds(t).hold();
        new SlantBounds(t).hold();
        new ShotBounds(t).hold();
        new ChangeBounds(t).hold();
        new RefusalBounds(t).hold();
        new WriteBounds(t).hold();
        t.saidAll();
        t.close("BoundsTest");
    }
}
