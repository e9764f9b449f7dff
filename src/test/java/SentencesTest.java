/** Each sentence of the document, by the answers that it asks for: at the edges that it names, below them, above them, and between. */
public final class SentencesTest {
    public static void main(String[] args) {
        PlainWords.all(args.length > 0 ? args[0] : "src/main/java/FourFlails.java");
        FloorEdges.all();
        TextEdges.all();
        RoundEdges.all();
        BestEdges.all();
        KeptEdges.all();
        HostEdges.all();
        WhatChanges.all();
        Sentences.end();
    }
}
