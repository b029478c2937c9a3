/**
 * Sentence by sentence of the document, all promises: what is last allowed and first refused, what a refused call
 * throws, and that nothing is another one behind it. In the end, no sentence may be left without a test.
 */
public final class EdgesTest {
    private EdgesTest() {
    }

    public static void main(String[] args) {
        ChannelEdges.run();
        RunningEdges.run();
        CurveEdges.run();
        LayerEdges.run();
        BoneEdges.run();
        ReachEdges.run();
        BakeEdges.run();
        NameEdges.run();
        UndoEdges.run();
        PeopleEdges.run();
        GateEdges.run();
        FaceEdges.run();
        Edge.end();
        Check.end("EdgesTest");
    }
}
