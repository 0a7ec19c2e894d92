import java.io.IOException;

/**
 * Whether each sentence of the document, from Terms to the last promise, has a test among the
 * boundary cases or is known to name none, and whether each test's words stand in the document.
 */
final class SentencesTest {
    /** Sentences that name no boundary case; the tests of the promises are behind them. */
    private static final String[][] WITHOUT_BOUNDARY = {
        {"Terms", "All numbers are whole"},
        {"Terms", "levels and draughts are in centimetres, amounts in euros"},
        {"Errors", "the interface says: ---- level and ramps."},
        {"Errors", "the interface says: ---- permits."},
        {"Errors", "the interface says: ---- snapshots."},
        {"Errors", "the interface says: ---- programs."},
        {"Errors", "the interface says: ---- looking."},
        {"Promise 2", "Sets the level."},
        {"Promise 3", "Sets the rate of a week."},
        {"Promise 4", "Adds a ramp."},
        {"Promise 5", "Sets the fee of a ramp."},
        {"Promise 6", "Sets the amount of a fine."},
        {"Promise 7", "Sells a permit."},
        {"Promise 8", "Moves a permit to another ramp."},
        {"Promise 12", "Launches a boat."},
        {"Promise 18", "Runs the text as a program."},
        {"Promise 20", "Returns a number."},
        {"Promise 21", "Returns a property of a ramp."},
        {"Promise 22", "Returns a property of a permit."},
        {"Promise 23", "Returns an amount over all permits."},
        {"Promise 24", "Returns the rate of a week."},
        {"Promise 25", "Returns a forecast level."},
    };

    private final Due due = new Due("SentencesTest");
    private final Claims claims = new Claims();
    private final Document document;

    private SentencesTest(Document document) {
        this.document = document;
    }

    public static void main(String[] args) throws IOException {
        if (!Document.isThere()) {
            System.out.println("SentencesTest: the document is not there, nothing was compared");
            return;
        }
        SentencesTest test = new SentencesTest(new Document());
        for (Boundaries boundaries : BoundariesTest.all(new Due("BoundariesTest"), test.claims)) {
            boundaries.testAll();
        }
        for (String[] without : WITHOUT_BOUNDARY) {
            test.claims.add(without[0], without[1]);
        }
        test.eachClaimIsASentence();
        test.eachSentenceIsClaimed();
        test.due.finish();
    }

    private void eachClaimIsASentence() {
        for (Claims.Claim claim : claims.all()) {
            int found = 0;
            for (String sentence : document.sentences(claim.section)) {
                found += sentence.contains(claim.words) ? 1 : 0;
            }
            due.part(claim.section);
            due.is("sentences with '" + claim.words + "'", found, 1);
        }
    }

    private void eachSentenceIsClaimed() {
        boolean begun = false;
        for (String section : document.sections()) {
            begun |= section.equals("Terms");
            if (begun && !section.equals("Not promised")) {
                due.part(section);
                for (String sentence : document.sentences(section)) {
                    due.isTrue("a test of '" + sentence + "'", isClaimed(section, sentence));
                }
            }
        }
    }

    private boolean isClaimed(String section, String sentence) {
        for (Claims.Claim claim : claims.all()) {
            if (claim.section.equals(section) && sentence.contains(claim.words)) {
                return true;
            }
        }
        return false;
    }
}
