/** Promises 20 to 24: count, ramp, permit, money, rate. */
final class LookingTest {
    private static final int INVALID = RampPermits.INVALID_ARGUMENT;
    private static final int NONE = RampPermits.NONE;

    private final Due due = new Due("LookingTest");

    public static void main(String[] args) {
        LookingTest test = new LookingTest();
        test.count();
        test.ramp();
        test.rampDraught();
        test.permit();
        test.money();
        test.rate();
        test.due.finish();
    }

    /** Four permits: one passed, one cancelled, two with days to come, one of them today. */
    private static RampPermits fourPermits() {
        RampPermits x = new RampPermits();
        x.addRamp(1900, 3, 21);
        x.addRamp(1700, 2, 30);
        x.buy(0, 0, 0, 0);
        x.buy(0, 0, 4, 10);
        x.buy(0, 0, 3, 20);
        x.buy(1, 3, 4, 300);
        x.pass(-50);
        x.pass(0);
        x.cancel(2);
        return x;
    }

    private void count() {
        due.part("promise 20");
        RampPermits x = fourPermits();
        x.take(1);
        x.launch(0, 0, -1);
        x.launch(0, 0, -1);
        x.launch(0, 300, -1);
        x.launch(0, 11, 1);
        x.launch(0, 11, 1);
        x.launch(0, 11, 1);
        x.setFine(1, 41);
        x.setFine(3, 21);
        Calls.write(x, "abc");
        int[] want = {2, 1950, 2, 4, 2, 1, 5, 3, 41, 60, 21, 1, 2, 3};
        for (int what = 0; what < want.length; what++) {
            due.is("count(" + what + ")", x.count(what), want[what]);
        }
        for (int wrong : new int[] {-1, 14, Integer.MIN_VALUE, Integer.MAX_VALUE}) {
            due.is("count(" + wrong + ")", x.count(wrong), INVALID);
        }
    }

    private void ramp() {
        due.part("promise 21");
        RampPermits x = fourPermits();
        int[][] want = {{1900, 3, 21, 1, 1, 50}, {1700, 2, 30, 1, 0, 250}};
        for (int ramp = 0; ramp < 2; ramp++) {
            for (int what = 0; what <= 5; what++) {
                due.is("ramp(" + ramp + ", " + what + ")", x.ramp(ramp, what), want[ramp][what]);
            }
        }
        for (int wrong : new int[] {-1, 2, 4, Integer.MIN_VALUE, Integer.MAX_VALUE}) {
            due.is("ramp(" + wrong + ", 0)", x.ramp(wrong, 0), INVALID);
        }
        for (int wrong : new int[] {-1, 6, Integer.MIN_VALUE, Integer.MAX_VALUE}) {
            due.is("ramp(0, " + wrong + ")", x.ramp(0, wrong), INVALID);
        }
        x.move(1, 1);
        due.is("ramp(0, 3) after a move", x.ramp(0, 3), 0);
        due.is("ramp(1, 3) after a move", x.ramp(1, 3), 2);
        due.is("ramp(1, 4) after a move", x.ramp(1, 4), 1);
        x.pass(0);
        due.is("ramp(1, 4) on the next day", x.ramp(1, 4), 2);
        x.pass(0);
        due.is("ramp(1, 3) with a last day to come for both", x.ramp(1, 3), 2);
        due.is("count(4)", x.count(4), 2);
        x.pass(0);
        due.is("ramp(1, 3) with no days to come", x.ramp(1, 3), 0);
        due.is("count(4)", x.count(4), 0);
        RampPermits y = new RampPermits();
        y.addRamp(1000, 1, 7);
        y.buy(0, 0, 3, 0);
        due.is("ramp(0, 3) of permit 0", y.ramp(0, 3), 1);
        due.is("count(4) of permit 0", y.count(4), 1);
        due.is("money(4) of permit 0", y.money(4), 28);
    }

    private void rampDraught() {
        due.part("promise 21, draught");
        RampPermits x = new RampPermits();
        x.addRamp(1900, 3, 21);
        int[][] want = {{1899, NONE}, {1900, 0}, {1901, 1}, {2199, 299}, {2200, 300}, {2201, 300},
            {5000, 300}, {0, NONE}};
        for (int[] w : want) {
            x.setLevel(w[0]);
            due.is("ramp(0, 5) at " + w[0], x.ramp(0, 5), w[1]);
        }
        due.is("ramp(1, 5)", x.ramp(1, 5), INVALID);
    }

    private void permit() {
        due.part("promise 22");
        RampPermits x = fourPermits();
        int[][] want = {
            {0, 0, 0, 0, 21, 21, 21, 0, 0, 1, 0, 0, 0},
            {0, 0, 4, 10, 21, 105, 42, 0, 0, 2, 0, 3, 0},
            {0, 0, 3, 20, 21, 84, 64, 20, 0, 2, 0, 0, 1},
            {1, 3, 4, 300, 30, 60, 0, 0, 0, 0, 0, 2, 0}};
        for (int permit = 0; permit < want.length; permit++) {
            for (int what = 0; what <= 12; what++) {
                due.is("permit(" + permit + ", " + what + ")", x.permit(permit, what), want[permit][what]);
            }
        }
        x.refund(2);
        due.is("permit(2, 8)", x.permit(2, 8), 20);
        x.pass(0);
        x.pass(0);
        due.is("permit(3, 10)", x.permit(3, 10), 1);
        for (int wrong : new int[] {-1, 4, 12, Integer.MIN_VALUE, Integer.MAX_VALUE}) {
            due.is("permit(" + wrong + ", 0)", x.permit(wrong, 0), INVALID);
        }
        for (int wrong : new int[] {-1, 13, Integer.MIN_VALUE, Integer.MAX_VALUE}) {
            due.is("permit(0, " + wrong + ")", x.permit(0, wrong), INVALID);
        }
    }

    private void money() {
        due.part("promise 23");
        RampPermits x = fourPermits();
        x.launch(0, 0, -1);
        x.launch(0, 300, -1);
        int[] want = {270, 127, 20, 0, 123, 100};
        for (int what = 0; what < want.length; what++) {
            due.is("money(" + what + ")", x.money(what), want[what]);
        }
        x.refund(2);
        due.is("money(2) after refund", x.money(2), 0);
        due.is("money(3) after refund", x.money(3), 20);
        x.setFee(0, 500);
        due.is("money(4) keeps the fees of permits", x.money(4), 123);
        for (int i = 0; i < 3; i++) {
            x.pass(-80);
            due.is("paid is kept, owed, refunded or to come", x.money(0),
                x.money(1) + x.money(2) + x.money(3) + x.money(4));
        }
        for (int wrong : new int[] {-1, 6, Integer.MIN_VALUE, Integer.MAX_VALUE}) {
            due.is("money(" + wrong + ")", x.money(wrong), INVALID);
        }
    }

    private void rate() {
        due.part("promise 24");
        RampPermits x = new RampPermits();
        for (int week = 0; week < 26; week++) {
            x.setRate(week, week * 4 - 50);
        }
        for (int week = 0; week < 26; week++) {
            due.is("rate(" + week + ")", x.rate(week), week * 4 - 50);
        }
        for (int wrong : new int[] {-1, 26, Integer.MIN_VALUE, Integer.MAX_VALUE}) {
            due.is("rate(" + wrong + ")", x.rate(wrong), INVALID);
        }
    }
}
