/** Each boundary that the document names has a test of its own: see Edges. */
public final class EdgesTest {
  public static void main(String[] args) throws Exception {
    Edges.read();
    DescriptionEdges.all();
    GoingEdges.all();
    TellingEdges.all();
    AskingEdges.all();
    Edges.end();
    Check.end("EdgesTest");
  }
}
