/**
 * The document sentence by sentence: what it says of each boundary, just inside and just outside it.
 * A sentence of its terms or promises without a test makes this fail too.
 */
public final class BoundariesTest {
    private BoundariesTest() {
    }

    public static void main(String[] args) {
        Boundaries b = new Boundaries();
        AnglesBoundaries.check(b);
        SpheresBoundaries.check(b);
        PlatesBoundaries.check(b);
        GlobesBoundaries.check(b);
        DatingBoundaries.check(b);
        SourcesBoundaries.check(b);
        BordersAndSkyBoundaries.check(b);
        TradeBoundaries.check(b);
        WorkshopBoundaries.check(b);
        b.end();
    }
}
