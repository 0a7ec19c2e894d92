import java.util.ArrayList;
import java.util.List;

/** Which sentences of the document have a test: the section of each, and words that stand in it. */
final class Claims {
    static final class Claim {
        final String section;
        final String words;

        Claim(String section, String words) {
            this.section = section;
            this.words = words;
        }
    }

    private final List<Claim> all = new ArrayList<>();

    void add(String section, String words) {
        all.add(new Claim(section, words));
    }

    List<Claim> all() {
        return all;
    }
}
