/** Each sentence of the document that names a boundary case, quoted from it, with its test. */
public final class EdgesTest {
    public static void main(String[] args) {
        ToldEdges.all();
        DoneEdges.all();
        ForetoldEdges.all();
        SeenEdges.all();
        RackEdges.all();
        Edges.allPromisesQuoted();
        Check.end("EdgesTest");
    }
}
