import java.io.IOException;

/** The document sentence by sentence: each that names a boundary has a test of its own, on both of its sides. */
public final class BoundariesTest {
    private BoundariesTest() {
    }

    public static void main(String[] args) throws IOException {
        Doc.read();
        LaneBoundaries.all();
        TapeBoundaries.all();
        RoundBoundaries.all();
        SoughtBoundaries.all();
        KnownBoundaries.all();
        ShelfBoundaries.all();
        ToldRowBoundaries.all();
        RefusalBoundaries.all();
        TruthBoundaries.all();
        Doc.allHeld();
        Check.finish();
    }
}
