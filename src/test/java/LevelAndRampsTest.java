/** Promises 2 to 6: setLevel, setRate, addRamp, setFee, setFine. */
final class LevelAndRampsTest {
    private static final int INVALID = RampPermits.INVALID_ARGUMENT;

    private final Due due = new Due("LevelAndRampsTest");

    public static void main(String[] args) {
        LevelAndRampsTest test = new LevelAndRampsTest();
        test.setLevel();
        test.setRate();
        test.addRamp();
        test.setFee();
        test.setFine();
        test.due.finish();
    }

    private void setLevel() {
        due.part("promise 2");
        RampPermits x = new RampPermits();
        due.is("setLevel(0)", x.setLevel(0), 2000);
        due.is("count(1)", x.count(1), 0);
        due.is("setLevel(5000)", x.setLevel(5000), 0);
        due.is("setLevel(5000) again", x.setLevel(5000), 5000);
        due.is("states", x.count(6), 3);
        String before = Calls.stateOf(x);
        for (int level : new int[] {-1, 5001, Integer.MIN_VALUE, Integer.MAX_VALUE}) {
            due.is("setLevel(" + level + ")", x.setLevel(level), INVALID);
        }
        due.isTrue("errors change nothing", before.equals(Calls.stateOf(x)));
    }

    private void setRate() {
        due.part("promise 3");
        RampPermits x = new RampPermits();
        due.is("setRate(0, -50)", x.setRate(0, -50), 0);
        due.is("setRate(0, 50)", x.setRate(0, 50), -50);
        due.is("setRate(0, 1)", x.setRate(0, 1), 50);
        due.is("setRate(25, 7)", x.setRate(25, 7), 0);
        due.is("states", x.count(6), 4);
        due.is("rate(0)", x.rate(0), 1);
        due.is("rate(25)", x.rate(25), 7);
        due.is("rate(1)", x.rate(1), 0);
        String before = Calls.stateOf(x);
        int[][] wrong = {{-1, 0}, {26, 0}, {0, -51}, {0, 51}, {Integer.MIN_VALUE, 0},
            {Integer.MAX_VALUE, 0}, {0, Integer.MIN_VALUE}, {0, Integer.MAX_VALUE}};
        for (int[] w : wrong) {
            due.is("setRate(" + w[0] + ", " + w[1] + ")", x.setRate(w[0], w[1]), INVALID);
        }
        due.isTrue("errors change nothing", before.equals(Calls.stateOf(x)));
    }

    private void addRamp() {
        due.part("promise 4");
        RampPermits x = new RampPermits();
        int[][] wrong = {{-1, 1, 1}, {4001, 1, 1}, {0, 0, 1}, {0, 21, 1}, {0, 1, 0}, {0, 1, 501},
            {Integer.MIN_VALUE, 1, 1}, {0, Integer.MAX_VALUE, 1}, {0, 1, Integer.MIN_VALUE}};
        for (int[] w : wrong) {
            due.is("addRamp(" + w[0] + ", " + w[1] + ", " + w[2] + ")", x.addRamp(w[0], w[1], w[2]), INVALID);
        }
        due.is("ramps", x.count(2), 0);
        due.is("states", x.count(6), 0);
        due.is("addRamp(0, 1, 1)", x.addRamp(0, 1, 1), 0);
        due.is("addRamp(4000, 20, 500)", x.addRamp(4000, 20, 500), 1);
        due.is("addRamp(1500, 3, 25)", x.addRamp(1500, 3, 25), 2);
        due.is("addRamp(1500, 3, 25) again", x.addRamp(1500, 3, 25), 3);
        due.is("ramps", x.count(2), 4);
        String before = Calls.stateOf(x);
        due.is("a fifth ramp", x.addRamp(10, 1, 1), RampPermits.CAPACITY_EXCEEDED);
        due.is("a fifth and wrong ramp", x.addRamp(10, 0, 1), INVALID);
        due.isTrue("errors change nothing", before.equals(Calls.stateOf(x)));
        due.is("ramp(1, 0)", x.ramp(1, 0), 4000);
        due.is("ramp(1, 1)", x.ramp(1, 1), 20);
        due.is("ramp(1, 2)", x.ramp(1, 2), 500);
        due.is("undo()", x.undo(), 3);
        due.is("another ramp after undo", x.addRamp(11, 2, 3), 3);
        due.is("ramp(3, 0)", x.ramp(3, 0), 11);
    }

    private void setFee() {
        due.part("promise 5");
        RampPermits x = new RampPermits();
        due.is("setFee(0, 1) without ramps", x.setFee(0, 1), INVALID);
        x.addRamp(1000, 2, 30);
        x.addRamp(1000, 2, 40);
        x.buy(0, 0, 3, 10);
        due.is("setFee(0, 500)", x.setFee(0, 500), 30);
        due.is("setFee(0, 1)", x.setFee(0, 1), 500);
        due.is("setFee(1, 1)", x.setFee(1, 1), 40);
        due.is("states", x.count(6), 5);
        due.is("ramp(0, 2)", x.ramp(0, 2), 1);
        due.is("the fee of a permit stays", x.permit(0, 4), 30);
        due.is("what was paid stays", x.permit(0, 5), 120);
        String before = Calls.stateOf(x);
        int[][] wrong = {{-1, 1}, {2, 1}, {0, 0}, {0, 501}, {Integer.MIN_VALUE, 1}, {Integer.MAX_VALUE, 1},
            {0, Integer.MIN_VALUE}, {0, Integer.MAX_VALUE}};
        for (int[] w : wrong) {
            due.is("setFee(" + w[0] + ", " + w[1] + ")", x.setFee(w[0], w[1]), INVALID);
        }
        due.isTrue("errors change nothing", before.equals(Calls.stateOf(x)));
    }

    private void setFine() {
        due.part("promise 6");
        RampPermits x = new RampPermits();
        due.is("setFine(1, 0)", x.setFine(1, 0), 40);
        due.is("setFine(2, 500)", x.setFine(2, 500), 60);
        due.is("setFine(3, 1)", x.setFine(3, 1), 20);
        due.is("setFine(3, 2)", x.setFine(3, 2), 1);
        due.is("states", x.count(6), 4);
        due.is("count(8)", x.count(8), 0);
        due.is("count(9)", x.count(9), 500);
        due.is("count(10)", x.count(10), 2);
        String before = Calls.stateOf(x);
        int[][] wrong = {{0, 1}, {4, 1}, {1, -1}, {1, 501}, {Integer.MIN_VALUE, 1}, {Integer.MAX_VALUE, 1},
            {1, Integer.MIN_VALUE}, {1, Integer.MAX_VALUE}};
        for (int[] w : wrong) {
            due.is("setFine(" + w[0] + ", " + w[1] + ")", x.setFine(w[0], w[1]), INVALID);
        }
        due.isTrue("errors change nothing", before.equals(Calls.stateOf(x)));
    }
}
