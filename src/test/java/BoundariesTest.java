import java.util.List;

/** The boundary cases that the document names, sentence by sentence. */
final class BoundariesTest {
    private BoundariesTest() {
    }

    public static void main(String[] args) {
        Due due = new Due("BoundariesTest");
        for (Boundaries boundaries : all(due, new Claims())) {
            boundaries.testAll();
        }
        due.finish();
    }

    static List<Boundaries> all(Due due, Claims claims) {
        return List.of(new LevelBoundaries(due, claims), new PermitTermsBoundaries(due, claims),
            new PermitBoundaries(due, claims), new StateBoundaries(due, claims), new ProgramBoundaries(due, claims),
            new LookBoundaries(due, claims), new ForecastBoundaries(due, claims));
    }
}
