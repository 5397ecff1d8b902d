import java.io.IOException;

/** Each sentence of the document that names a boundary case has a test of its own. */
public final class EdgesTest {
    public static void main(String[] args) throws IOException {
        PathEdges.all();
        TubeEdges.all();
        BendEdges.all();
        GasEdges.all();
        VoltEdges.all();
        SignEdges.all();
        CamEdges.all();
        WordEdges.all();
        FrameEdges.all();
        PermitEdges.all();
        OldSignEdges.all();
        WeekEdges.all();
        CareEdges.all();
        Edges.coverDocument();
        Check.end(EdgesTest.class);
    }
}
