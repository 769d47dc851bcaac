/** Each sentence of the document that names a boundary case, by a test of its own. */
final class BoundariesTest {
    private BoundariesTest() {
    }

    public static void main(String[] args) {
        Checks checks = new Checks("BoundariesTest");
        Sentences sentences = new Sentences(checks);
        new TermBoundaries(checks, sentences).all();
        new CountingBoundaries(checks, sentences).all();
        new RefusalBoundaries(checks, sentences).all();
        new WarehouseBoundaries(checks, sentences).all();
        new CountBoundaries(checks, sentences).all();
        new FigureBoundaries(checks, sentences).all();
        sentences.allHaveTests();
        checks.end();
    }
}
