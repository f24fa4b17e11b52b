import java.io.IOException;

/**
 * One test for each sentence of ../shared/DOC.md that names a boundary case (too small, too large, empty, full, a
 * wrap-around, a refused call). Each test quotes its sentence; a boundary that nothing quotes is a failure.
 */
public final class BoundaryTest {
    public static void main(String[] args) throws IOException {
        Sentences s = new Sentences("BoundaryTest");
        OrderBoundaries.all(s);
        TextBoundaries.all(s);
        ChangeBoundaries.all(s);
        DayBoundaries.all(s);
        BestBoundaries.all(s);
        OddsBoundaries.all(s);
        SeenBoundaries.all(s);
        SheetBoundaries.all(s);
        s.finish();
    }
}
