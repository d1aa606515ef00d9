/** Stage by stage through the document: each sentence that names a boundary case has a test of its own. */
public final class BoundariesTest {
    public static void main(String[] args) {
        TermsBoundaries.all();
        CachesBoundaries.all();
        SumsBoundaries.all();
        KnowledgeBoundaries.all();
        ScenariosBoundaries.all();
        SlotsBoundaries.all();
        ErrorsBoundaries.all();
        Boundary.lookForGaps();
        Run.end();
    }
}
