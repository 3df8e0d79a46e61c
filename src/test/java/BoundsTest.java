/** Each sentence of the document that tells a bound, an edge or a refusal, by a test of its own. */
public final class BoundsTest {
    public static void main(String[] args) throws Exception {
        Sheet sheet = new Sheet();
        new FieldBounds(sheet).all();
        new NightBounds(sheet).all();
        new OutcomeBounds(sheet).all();
        new SearchBounds(sheet).all();
        new BookBounds(sheet).all();
        new StateBounds(sheet).all();
        sheet.finish();
    }
}
