/** Each sentence of the document has a test of its own, and none is left out. */
public final class BoundaryTest {
    public static void main(String[] args) {
        Sheet sheet = new Sheet();
        new TermsBoundary(sheet).list();
        new SwitchBoundary(sheet).list();
        new FramesBoundary(sheet).list();
        new ModelBoundary(sheet).list();
        new FaultsBoundary(sheet).list();
        new BlameBoundary(sheet).list();
        sheet.end();
    }
}
