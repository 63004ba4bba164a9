import java.io.IOException;

/** All promises: each sentence of the document that names a boundary case has edges, and these hold. */
public final class EdgesTest {
  public static void main(String[] args) throws IOException {
    Check check = new Check("EdgesTest");
    Edges edges = new Edges();
    StepEdges.addTo(edges);
    DocumentEdges.addTo(edges);
    SegmentEdges.addTo(edges);
    CommitEdges.addTo(edges);
    ViewEdges.addTo(edges);
    QueryEdges.addTo(edges);
    HitEdges.addTo(edges);
    MarkEdges.addTo(edges);
    RefusalEdges.addTo(edges);
    for (Edges.Edge edge : edges.all()) edge.check(check);
    Sentences sentences = new Sentences();
    for (Edges.Edge edge : edges.all()) check.tell(edge.sentence, sentences.hold(edge), "is not in " + edge.section);
    sentences.check(check, edges.all());
    check.end();
  }
}
