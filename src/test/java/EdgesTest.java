/** Each sentence of the document that names an edge, by the answers that it asks for at the edge, below it and above it. */
public final class EdgesTest {
    public static void main(String[] args) {
        FloorEdges.all();
        TextEdges.all();
        RoundEdges.all();
        BestEdges.all();
        KeptEdges.all();
        HostEdges.all();
        if (args.length > 1) System.out.println(Sentences.unquoted());
        Sentences.end();
    }
}
