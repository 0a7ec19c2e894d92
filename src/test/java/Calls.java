/** Runs of calls that several tests need. */
final class Calls {
    private Calls() {
    }

    /** Puts a text in place of the one that is there. */
    static void write(RampPermits x, String text) {
        x.clearText();
        for (int i = 0; i < text.length(); i++) {
            x.append(text.charAt(i));
        }
    }

    /** Writes a text and runs it. */
    static int run(RampPermits x, String text) {
        write(x, text);
        return x.run();
    }

    /** Lets days pass without a change of the level. */
    static void passDays(RampPermits x, int days) {
        for (int i = 0; i < days; i++) {
            x.pass(0);
        }
    }

    /**
     * All that can be looked at but the text, the failure and the history, as one text: two
     * objects with the same one are in the same state, snapshots left aside.
     */
    static String seasonOf(RampPermits x) {
        StringBuilder all = new StringBuilder();
        for (int what = 0; what <= 13; what++) {
            if (what < 5 || what > 7) {
                all.append(x.count(what)).append(' ');
            }
        }
        for (int week = 0; week < 26; week++) {
            all.append(x.rate(week)).append(' ');
        }
        for (int what = 0; what <= 5; what++) {
            all.append(x.money(what)).append(' ');
        }
        for (int ramp = 0; ramp < x.count(2); ramp++) {
            all.append("ramp ");
            for (int what = 0; what <= 5; what++) {
                all.append(x.ramp(ramp, what)).append(' ');
            }
        }
        for (int permit = 0; permit < x.count(3); permit++) {
            all.append("permit ");
            for (int what = 0; what <= 12; what++) {
                all.append(x.permit(permit, what)).append(' ');
            }
        }
        return all.toString();
    }

    /** As seasonOf(), and the numbers of snapshots, of states in the history and of characters. */
    static String stateOf(RampPermits x) {
        return seasonOf(x) + x.count(5) + " " + x.count(6) + " " + x.count(7);
    }

    /** As stateOf(), and the latest failure. */
    static String wholeStateOf(RampPermits x) {
        StringBuilder all = new StringBuilder(stateOf(x));
        for (int what = 0; what <= 4; what++) {
            all.append(' ').append(x.failure(what));
        }
        return all.toString();
    }

    /** Empties the history and leaves the rest as it is. */
    static void forgetHistory(RampPermits x) {
        for (int i = 0; i < 5; i++) {
            x.setRate(0, x.rate(0));
        }
        for (int i = 0; i < 5; i++) {
            x.undo();
        }
    }

    /** Buys a number of permits alike. */
    static void buyMany(RampPermits x, int number, int ramp, int first, int last) {
        for (int i = 0; i < number; i++) {
            x.buy(ramp, first, last, 0);
        }
    }
}
