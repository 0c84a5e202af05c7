/** Promises 1 to 29, sentence by sentence: each one that names an edge is quoted and tried at that edge. */
public final class EdgeTest {
    public static void main(String[] args) {
        Check check = new Check();
        new ProfileEdges(check).all();
        new TextEdges(check).all();
        new SightEdges(check).all();
        new ChainEdges(check).all();
        new WatchEdges(check).all();
        new NumberEdges(check).all();
        new ErrorEdges(check).all();
        check.everyPromiseWasQuoted();
        check.finish();
    }
}
