/**
 * Each sentence of the document that names a boundary, tested by itself: the last that is taken and the
 * first that is refused, what is empty and full, what wraps around, and that what is refused changes nothing.
 */
public final class PromisesTest {
    private PromisesTest() {
    }

    public static void main(String[] args) {
        TextPromises.all();
        TablePromises.all();
        EnginePromises.all();
        RowPromises.all();
        PlatePromises.all();
        Document.nothingIsLeft();
        Check.close();
    }
}
