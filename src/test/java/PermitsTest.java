/** Promises 7 to 12: buy, move, cancel, refund, pass, launch. */
final class PermitsTest {
    private static final int INVALID = RampPermits.INVALID_ARGUMENT;
    private static final int ILLEGAL = RampPermits.ILLEGAL_STATE;
    private static final int FULL = RampPermits.CAPACITY_EXCEEDED;

    private final Due due = new Due("PermitsTest");

    public static void main(String[] args) {
        PermitsTest test = new PermitsTest();
        test.buy();
        test.buyWrong();
        test.buyFits();
        test.buyTwelve();
        test.move();
        test.moveLooksAtDaysToComeOnly();
        test.moveRefused();
        test.cancel();
        test.cancelClosedDays();
        test.refund();
        test.pass();
        test.passBounds();
        test.launch();
        test.launchWrong();
        test.due.finish();
    }

    private static RampPermits twoRamps() {
        RampPermits x = new RampPermits();
        x.addRamp(1900, 1, 21);
        x.addRamp(1700, 2, 30);
        return x;
    }

    private void property(RampPermits x, int permit, int... want) {
        for (int what = 0; what < want.length; what++) {
            due.is("permit(" + permit + ", " + what + ")", x.permit(permit, what), want[what]);
        }
    }

    private void buy() {
        due.part("promise 7");
        RampPermits x = twoRamps();
        due.is("buy(1, 2, 5, 300)", x.buy(1, 2, 5, 300), 0);
        property(x, 0, 1, 2, 5, 300, 30, 120, 0, 0, 0, 0, 0, 4, 0);
        due.is("buy(0, 0, 29, 0)", x.buy(0, 0, 29, 0), 1);
        property(x, 1, 0, 0, 29, 0, 21, 630, 0, 0, 0, 0, 0, 30, 0);
        due.is("buy(1, 181, 181, 0)", x.buy(1, 181, 181, 0), 2);
        due.is("states", x.count(6), 5);
        due.is("money(0)", x.money(0), 780);
        Calls.passDays(x, 3);
        due.is("buy(1, 2, 6, 0) before today", x.buy(1, 2, 6, 0), ILLEGAL);
        due.is("buy(1, 3, 32, 0) from today", x.buy(1, 3, 32, 0), 3);
    }

    private void buyWrong() {
        due.part("promise 7, wrong");
        RampPermits x = twoRamps();
        x.pass(0);
        String before = Calls.stateOf(x);
        int[][] wrong = {{-1, 1, 1, 0}, {2, 1, 1, 0}, {0, -1, 1, 0}, {0, 182, 182, 0}, {0, 1, 182, 0},
            {0, 5, 4, 0}, {0, 1, 31, 0}, {0, 1, 1, -1}, {0, 1, 1, 301}, {0, 170, 182, 0},
            {Integer.MAX_VALUE, 1, 1, 0}, {0, Integer.MIN_VALUE, 1, 0}, {0, 1, Integer.MAX_VALUE, 0},
            {0, Integer.MIN_VALUE, Integer.MAX_VALUE, 0}, {0, 1, 1, Integer.MAX_VALUE},
            {0, 0, 30, 0}, {0, 0, 0, 301}};
        for (int[] w : wrong) {
            due.is("buy(" + w[0] + ", " + w[1] + ", " + w[2] + ", " + w[3] + ")",
                x.buy(w[0], w[1], w[2], w[3]), INVALID);
        }
        due.is("buy(0, 0, 0, 0) before today", x.buy(0, 0, 0, 0), ILLEGAL);
        due.is("buy(0, 0, 3, 0) from before today", x.buy(0, 0, 3, 0), ILLEGAL);
        due.isTrue("errors change nothing", before.equals(Calls.stateOf(x)));
    }

    private void buyFits() {
        due.part("promise 7, fits");
        RampPermits x = twoRamps();
        due.is("too deep", x.buy(0, 0, 0, 101), ILLEGAL);
        due.is("just deep enough", x.buy(0, 0, 0, 100), 0);
        due.is("no boat is left", x.buy(0, 0, 0, 0), ILLEGAL);
        due.is("a boat is missing on the last day only", x.buy(0, 1, 1, 0), 1);
        due.is("a boat is missing on one of the days", x.buy(0, 1, 2, 0), ILLEGAL);
        due.is("first of two boats", x.buy(1, 0, 9, 0), 2);
        due.is("second of two boats", x.buy(1, 9, 12, 0), 3);
        due.is("third of two boats", x.buy(1, 9, 9, 0), ILLEGAL);
        due.is("beside the second", x.buy(1, 10, 12, 0), 4);
        due.is("cancelled days are free", x.cancel(3), 60);
        due.is("third of two boats, after one is cancelled", x.buy(1, 9, 9, 0), 5);
        x.setRate(2, -10);
        due.is("open at the forecast", x.buy(0, 14, 17, 70), 6);
        due.is("closed at the forecast of the last day", x.buy(0, 18, 21, 31), ILLEGAL);
        due.is("open at it", x.buy(0, 18, 21, 30), 7);
        due.is("open to the last of 30 days", x.buy(1, 18, 47, 230), 8);
        due.is("too deep by then", x.buy(1, 18, 47, 231), ILLEGAL);
    }

    private void buyTwelve() {
        due.part("promise 7, twelve");
        RampPermits x = new RampPermits();
        x.addRamp(1900, 12, 2);
        for (int i = 0; i < 12; i++) {
            due.is("buy " + i, x.buy(0, 3, 4, 0), i);
        }
        String before = Calls.stateOf(x);
        due.is("no boat and no room", x.buy(0, 3, 4, 0), ILLEGAL);
        due.is("no room", x.buy(0, 5, 6, 0), FULL);
        due.is("wrong and no room", x.buy(0, 5, 4, 0), INVALID);
        due.isTrue("errors change nothing", before.equals(Calls.stateOf(x)));
        due.is("bestRamp(5, 6, 0) with twelve", x.bestRamp(5, 6, 0), 0);
        x.cancel(4);
        due.is("a cancelled one makes no room", x.buy(0, 5, 6, 0), FULL);
        x.undo();
        x.undo();
        due.is("permits", x.count(3), 11);
        due.is("the twelfth again", x.buy(0, 7, 9, 5), 11);
        property(x, 11, 0, 7, 9, 5, 2, 6, 0, 0, 0, 0, 0, 3, 0);
    }

    private void move() {
        due.part("promise 8");
        RampPermits x = new RampPermits();
        x.addRamp(1000, 2, 20);
        x.addRamp(1000, 2, 25);
        x.addRamp(1000, 1, 10);
        x.addRamp(1000, 1, 10);
        x.buy(0, 0, 5, 50);
        Calls.passDays(x, 2);
        x.setFee(1, 26);
        x.setFee(0, 400);
        due.is("move(0, 1) to a greater fee", x.move(0, 1), 24);
        property(x, 0, 1, 0, 5, 50, 26, 144, 40, 0, 0, 2, 0, 4, 0);
        due.is("move(0, 2) to a smaller fee", x.move(0, 2), -64);
        property(x, 0, 2, 0, 5, 50, 10, 144, 40, 64, 0, 2, 0, 4, 0);
        due.is("move(0, 3) to the same fee", x.move(0, 3), 0);
        property(x, 0, 3, 0, 5, 50, 10, 144, 40, 64, 0, 2, 0, 4, 0);
        due.is("states", x.count(6), 5);
        due.is("buy before its day", x.buy(2, 10, 12, 0), 1);
        due.is("move(1, 0) before its day", x.move(1, 0), 1170);
        due.is("permit(1, 5)", x.permit(1, 5), 1200);
    }

    private void moveLooksAtDaysToComeOnly() {
        due.part("promise 8, days to come");
        RampPermits x = twoRamps();
        x.buy(1, 5, 6, 90);
        x.buy(0, 4, 4, 0);
        x.buy(0, 7, 7, 0);
        x.setRate(0, -2);
        due.is("closed on day 6", x.move(0, 0), ILLEGAL);
        x.setRate(0, 0);
        x.setLevel(1980);
        due.is("closed on both days", x.move(0, 0), ILLEGAL);
        x.setRate(0, 2);
        due.is("closed and full on other days only", x.move(0, 0), -18);
        due.is("permit(0, 0)", x.permit(0, 0), 0);
        due.is("the ramp that it left has its boat again", x.buy(1, 5, 5, 0), 3);
        due.is("and the other one", x.buy(1, 5, 5, 0), 4);
        due.is("the ramp that it came to has not", x.buy(0, 5, 5, 0), ILLEGAL);
    }

    private void moveRefused() {
        due.part("promise 8, refused");
        RampPermits x = twoRamps();
        x.addRamp(1990, 1, 5);
        x.buy(0, 0, 3, 20);
        x.buy(1, 0, 0, 20);
        x.buy(1, 2, 6, 20);
        x.buy(0, 6, 7, 20);
        x.pass(0);
        String before = Calls.stateOf(x);
        for (int wrong : new int[] {-1, 4, Integer.MIN_VALUE, Integer.MAX_VALUE}) {
            due.is("move(" + wrong + ", 1)", x.move(wrong, 1), INVALID);
            due.is("move(0, " + wrong + ")", x.move(0, wrong), INVALID);
        }
        due.is("move(0, 3)", x.move(0, 3), INVALID);
        due.is("passed", x.move(1, 0), ILLEGAL);
        due.is("on this ramp already", x.move(0, 0), ILLEGAL);
        due.is("closed there", x.move(0, 2), ILLEGAL);
        due.is("full there on the days 2 to 3 and 6", x.move(2, 0), ILLEGAL);
        due.isTrue("errors change nothing", before.equals(Calls.stateOf(x)));
        x.cancel(0);
        due.is("still full there on day 6", x.move(2, 0), ILLEGAL);
        due.is("cancelled", x.move(0, 1), ILLEGAL);
        x.cancel(3);
        due.is("it fits then", x.move(2, 0), -45);
        x.addRamp(1000, 1, 5);
        x.buy(3, 1, 1, 0);
        x.buy(1, 1, 4, 0);
        due.is("full on day 1", x.move(5, 3), ILLEGAL);
        x.pass(0);
        due.is("only days to come count", x.move(5, 3), -75);
    }

    private void cancel() {
        due.part("promise 9");
        RampPermits x = twoRamps();
        x.buy(0, 0, 4, 0);
        x.buy(1, 3, 4, 0);
        Calls.passDays(x, 2);
        String before = Calls.stateOf(x);
        for (int wrong : new int[] {-1, 2, Integer.MIN_VALUE, Integer.MAX_VALUE}) {
            due.is("cancel(" + wrong + ")", x.cancel(wrong), INVALID);
        }
        due.isTrue("errors change nothing", before.equals(Calls.stateOf(x)));
        due.is("cancel(0): three halves of 21, each rounded down", x.cancel(0), 30);
        property(x, 0, 0, 0, 4, 0, 21, 105, 75, 30, 0, 2, 0, 0, 1);
        due.is("cancel(0) again", x.cancel(0), ILLEGAL);
        due.is("states", x.count(6), 5);
        x.pass(0);
        property(x, 0, 0, 0, 4, 0, 21, 105, 75, 30, 0, 2, 0, 0, 1);
        due.is("cancel(1)", x.cancel(1), 30);
        x.buy(0, 3, 3, 0);
        x.pass(0);
        due.is("cancel(2), which has passed", x.cancel(2), ILLEGAL);
        due.is("permit(2, 12)", x.permit(2, 12), 0);
    }

    private void cancelClosedDays() {
        due.part("promise 9, closed days");
        RampPermits x = twoRamps();
        x.buy(0, 0, 4, 80);
        x.setRate(0, -10);
        due.is("cancel(0): open on three of five days", x.cancel(0), 3 * 10 + 2 * 21);
        due.is("permit(0, 6)", x.permit(0, 6), 33);
        x.undo();
        x.setLevel(1979);
        due.is("cancel(0): closed on all days", x.cancel(0), 105);
        due.is("permit(0, 6)", x.permit(0, 6), 0);
        due.is("permit(0, 7)", x.permit(0, 7), 105);
        x.setFee(1, 1);
        x.setLevel(2100);
        due.is("a permit for a fee of 1", x.buy(1, 0, 3, 0), 1);
        due.is("cancel(1): half of 1 is 0", x.cancel(1), 0);
        due.is("permit(1, 6)", x.permit(1, 6), 4);
        due.is("permit(1, 12)", x.permit(1, 12), 1);
    }

    private void refund() {
        due.part("promise 10");
        RampPermits x = twoRamps();
        x.buy(0, 0, 4, 0);
        x.buy(1, 0, 4, 0);
        String before = Calls.stateOf(x);
        for (int wrong : new int[] {-1, 2, Integer.MIN_VALUE, Integer.MAX_VALUE}) {
            due.is("refund(" + wrong + ")", x.refund(wrong), INVALID);
        }
        due.is("nothing is owed", x.refund(0), ILLEGAL);
        due.isTrue("errors change nothing", before.equals(Calls.stateOf(x)));
        x.setLevel(1899);
        x.pass(0);
        x.pass(0);
        due.is("refund(0)", x.refund(0), 42);
        property(x, 0, 0, 0, 4, 0, 21, 105, 0, 0, 42, 0, 2, 3, 0);
        due.is("refund(0) again", x.refund(0), ILLEGAL);
        x.pass(0);
        due.is("refund(0) of another day", x.refund(0), 21);
        due.is("permit(0, 8)", x.permit(0, 8), 63);
        due.is("money(3)", x.money(3), 63);
        due.is("money(2)", x.money(2), 0);
        due.is("states", x.count(6), 5);
    }

    private void pass() {
        due.part("promise 11");
        RampPermits x = twoRamps();
        x.buy(0, 0, 1, 100);
        x.buy(1, 0, 2, 300);
        x.buy(1, 1, 1, 0);
        x.setRate(0, -50);
        due.is("pass(-1): the level of the day itself counts, not a rate", x.pass(-1), 0);
        due.is("level", x.count(1), 1999);
        due.is("today", x.count(0), 1);
        property(x, 0, 0, 0, 1, 100, 21, 42, 21, 0, 0, 1, 0, 1, 0);
        property(x, 1, 1, 0, 2, 300, 30, 90, 30, 0, 0, 1, 0, 2, 0);
        property(x, 2, 1, 1, 1, 0, 30, 30, 0, 0, 0, 0, 0, 1, 0);
        due.is("pass(500): two are closed", x.pass(500), 2);
        property(x, 0, 0, 0, 1, 100, 21, 42, 21, 21, 0, 1, 1, 0, 0);
        property(x, 1, 1, 0, 2, 300, 30, 90, 30, 30, 0, 1, 1, 1, 0);
        property(x, 2, 1, 1, 1, 0, 30, 30, 30, 0, 0, 1, 0, 0, 0);
        due.is("pass(0)", x.pass(0), 0);
        property(x, 0, 0, 0, 1, 100, 21, 42, 21, 21, 0, 1, 1, 0, 0);
        property(x, 1, 1, 0, 2, 300, 30, 90, 60, 30, 0, 2, 1, 0, 0);
        String before = Calls.stateOf(x);
        for (int wrong : new int[] {-501, 501, Integer.MIN_VALUE, Integer.MAX_VALUE}) {
            due.is("pass(" + wrong + ")", x.pass(wrong), INVALID);
        }
        due.isTrue("errors change nothing", before.equals(Calls.stateOf(x)));
    }

    private void passBounds() {
        due.part("promise 11, bounds");
        RampPermits x = twoRamps();
        x.setLevel(499);
        due.is("pass(-500)", x.pass(-500), 0);
        due.is("level", x.count(1), 0);
        x.setLevel(4501);
        due.is("pass(500)", x.pass(500), 0);
        due.is("level", x.count(1), 5000);
        x.buy(0, 181, 181, 0);
        Calls.passDays(x, 178);
        due.is("today", x.count(0), 180);
        due.is("pass to day 181", x.pass(0), 0);
        String before = Calls.stateOf(x);
        due.is("pass(0) on day 181", x.pass(0), ILLEGAL);
        due.is("pass(501) on day 181", x.pass(501), INVALID);
        due.isTrue("errors change nothing", before.equals(Calls.stateOf(x)));
        due.is("the last day is still to come", x.permit(0, 11), 1);
        due.is("and can be bought", x.buy(1, 181, 181, 0), 1);
    }

    private void launch() {
        due.part("promise 12");
        RampPermits x = twoRamps();
        x.buy(0, 0, 1, 90);
        x.buy(1, 1, 1, 90);
        due.is("all in order", x.launch(0, 90, 0), 0);
        due.is("in order at less draught", x.launch(0, 0, 0), 0);
        due.is("deeper than the permit", x.launch(0, 91, 0), 20);
        due.is("at the end of the ramp", x.launch(0, 100, 0), 20);
        due.is("closed goes first", x.launch(0, 101, 0), 40);
        due.is("closed goes first, without a permit", x.launch(0, 101, -1), 40);
        due.is("no permit", x.launch(0, 0, -1), 60);
        due.is("for another ramp, and deeper", x.launch(1, 91, 0), 60);
        due.is("not for today", x.launch(1, 0, 1), 60);
        due.is("count(11)", x.count(11), 2);
        due.is("count(12)", x.count(12), 3);
        due.is("count(13)", x.count(13), 2);
        due.is("money(5)", x.money(5), 300);
        due.is("states", x.count(6), 5);
        x.pass(0);
        due.is("for today now", x.launch(1, 0, 1), 0);
        x.cancel(1);
        due.is("cancelled", x.launch(1, 0, 1), 60);
        x.setFine(2, 0);
        due.is("a fine of 0", x.launch(1, 0, 1), 0);
        due.is("which counts", x.count(12), 5);
        due.is("money(5)", x.money(5), 360);
        x.pass(0);
        x.setFine(2, 500);
        due.is("passed", x.launch(0, 0, 0), 500);
        due.is("money(5), with the fines as they were", x.money(5), 860);
    }

    private void launchWrong() {
        due.part("promise 12, wrong");
        RampPermits x = twoRamps();
        x.buy(0, 0, 1, 90);
        String before = Calls.stateOf(x);
        int[][] wrong = {{-1, 0, 0}, {2, 0, 0}, {0, -1, 0}, {0, 301, 0}, {0, 0, -2}, {0, 0, 1},
            {Integer.MAX_VALUE, 0, 0}, {0, Integer.MIN_VALUE, 0}, {0, 0, Integer.MIN_VALUE},
            {0, 0, Integer.MAX_VALUE}, {0, 301, -1}};
        for (int[] w : wrong) {
            due.is("launch(" + w[0] + ", " + w[1] + ", " + w[2] + ")", x.launch(w[0], w[1], w[2]), INVALID);
        }
        due.isTrue("errors change nothing", before.equals(Calls.stateOf(x)));
        due.is("launch(0, 300, -1)", x.launch(0, 300, -1), 40);
    }
}
