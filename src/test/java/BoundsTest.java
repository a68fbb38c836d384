import java.util.List;

/**
 * The document's sentences that name a bound, one by one. Each check stands under the words that it looks at, and
 * no sentence of the document is left over, but for the first one, which names no bound.
 */
final class BoundsTest {
    private BoundsTest() {
    }

    public static void main(String[] args) {
        HallBounds.check();
        WordBounds.check();
        SequenceBounds.check();
        NumerationBounds.check();
        FormulaBounds.check();
        CountBounds.check();
        MatrixBounds.check();
        PatternBounds.check();
        PathBounds.check();
        List<String> first = List.of("What it is: " + Doc.allOf("What it is").get(0));
        Check.due("sentences that no check stands under", Doc.leftOver(), first);
        Check.due("methods whose exceptions were mixed", Refusals.methods(), Call.throwingMethods());
        Check.end("BoundsTest");
    }
}
