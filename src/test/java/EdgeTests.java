/** For each sentence of the document that names a boundary case one test of its own; none of those sentences is left out. */
public final class EdgeTests {
    private EdgeTests() {
    }

    public static void main(String[] args) {
        WalkEdges.all();
        BaseEdges.all();
        PairEdges.all();
        SplitEdges.all();
        WholeEdges.all();
        for (String line : Edge.untold()) {
            System.out.println("EdgeTests: no test tells " + line);
        }
        int wrong = Edge.wrongOnes() + Edge.untold().size();
        System.out.println(wrong == 0 ? "EdgeTests: " + Edge.count() + " hold" : "EdgeTests: " + wrong + " wrong answers");
        if (wrong != 0) {
            System.exit(1);
        }
    }
}
