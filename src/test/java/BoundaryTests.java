import java.nio.file.Files;
import java.nio.file.Path;

/**
 * Each sentence of the document that names a boundary (too small, too large, empty, full, a wrap-around, a refused call) has a
 * test of its own, in the order of the document. With the path of the document as an argument the words on which they rest are
 * looked for in it.
 */
public final class BoundaryTests {
    private BoundaryTests() {
    }

    public static void main(String[] args) throws Exception {
        TextEdges.all();
        PlanEdges.all();
        SearchEdges.all();
        ChanceEdges.all();
        SeatEdges.all();
        WeekEdges.all();
        boolean isWhole = areAllPlacesTested();
        boolean isQuoted = args.length == 0 || areWordsThere(Files.readString(Path.of(args[0])));
        System.out.println("boundary tests: " + Edges.testCount() + " tests, " + Edges.failedCount() + " failed");
        if (!isWhole || !isQuoted || Edges.failedCount() > 0) System.exit(1);
    }
    private static boolean areAllPlacesTested() {
        boolean isWhole = true;
        for (int number = 1; number <= 42; number++) isWhole &= isTested("promise " + number);
        return isWhole & isTested("Terms I") & isTested("Terms II") & isTested("Terms III");
    }
    private static boolean isTested(String place) {
        if (!Edges.PLACES.contains(place)) System.out.println(place + " has no test");
        return Edges.PLACES.contains(place);
    }
    private static boolean areWordsThere(String document) {
        boolean areThere = true;
        for (String words : Edges.QUOTED) {
            if (!document.contains(words)) {
                System.out.println("not in the document: " + words);
                areThere = false;
            }
        }
        return areThere;
    }
}
