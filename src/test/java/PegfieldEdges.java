import java.io.IOException;

/**
 * Each boundary case that ../shared/DOC.md names, by a test of its own that quotes the sentence; and that no
 * sentence that names one is left out. Run from the project's root.
 */
public final class PegfieldEdges {
    private PegfieldEdges() {
    }

    public static void main(String[] args) throws IOException {
        EdgesOfTerms.run();
        EdgesOfPegs.run();
        EdgesOfStretches.run();
        EdgesOfRoots.run();
        EdgesOfRing.run();
        EdgesOfAll.run();
        Edge.endWith(new Document());
    }
}
