/** Boundary cases of the promises 7 to 12. */
final class PermitBoundaries extends Boundaries {
    PermitBoundaries(Due due, Claims claims) {
        super(due, claims);
    }

    @Override
    void testAll() {
        buyArguments();
        buyLastDay();
        buyAnswers();
        buyRefused();
        moveArguments();
        moveAnswers();
        moveRefused();
        moveWhereItDoesNotFit();
        cancel();
        refund();
        passLevel();
        passDays();
        passRefused();
        launch();
    }

    // ---- buy

    private void buyArguments() {
        sentence("Promise 7", "`ramp`: a ramp");
        range(Scenes::oneRamp, "buy for the only ramp", 0, 0, (x, ramp) -> x.buy(ramp, 0, 0, 0), 0, 0);
        range(Scenes::fourRamps, "buy for ramp", 0, 3, (x, ramp) -> x.buy(ramp, 0, 0, 0), 0, 0);
        refusedOf(Scenes::fresh, "buy without ramps", (x, ramp) -> x.buy(ramp, 0, 0, 0), INVALID, -1, 0);
        sentence("Promise 7", "`first`: 0 to 181");
        range(Scenes::onePermit, "buy from", 0, 181, (x, first) -> x.buy(0, first, first, 0), 1, 1);
        refusedOf(Scenes::onePermit, "buy to day 0 from", (x, first) -> x.buy(0, first, 0, 0), INVALID, -1, 1, 181);
        sentence("Promise 7", "`draught`: 0 to 300");
        range(Scenes::onePermit, "buy for a draught", 0, 300, (x, draught) -> x.buy(0, 0, 0, draught), 1, 1);
        sentence("Promise 7", "This is an action");
        recorded(Scenes::busy, "buy(1, 2, 2, 300)", x -> x.buy(1, 2, 2, 300));
    }

    private void buyLastDay() {
        sentence("Promise 7", "`last`: first to 181, the last day, at most 29 days later");
        int[][] let = {{0, 0}, {0, 29}, {10, 10}, {10, 39}, {151, 180}, {152, 181}, {153, 181}, {181, 181}};
        int[][] not = {{0, -1}, {0, 30}, {10, 9}, {10, 40}, {151, 181}, {153, 182}, {181, 180}, {181, 182},
            {181, 0}, {0, 181}, {0, GREATEST}, {10, LEAST}, {LEAST, GREATEST}, {GREATEST, LEAST}};
        for (int[] days : let) {
            is("buy for " + days[0] + " to " + days[1], Scenes.oneRamp().buy(0, days[0], days[1], 0), 0);
        }
        for (int[] days : not) {
            refused(Scenes::onePermit, "buy for " + days[0] + " to " + days[1],
                x -> x.buy(0, days[0], days[1], 0), INVALID);
        }
    }

    private void buyAnswers() {
        sentence("Promise 7", "Returns its number");
        RampPermits x = Scenes.fourRamps();
        is("the first permit", x.buy(3, 181, 181, 300), 0);
        is("the second permit", x.buy(0, 0, 0, 0), 1);
        x.cancel(1);
        is("a permit behind a cancelled one", x.buy(0, 0, 0, 0), 2);
        x.pass(0);
        is("a permit behind a passed one", x.buy(0, 1, 1, 0), 3);
        is("the twelfth permit", Probe.after(Scenes::twelvePermits, y -> y.undo()).get().buy(1, 0, 0, 0), 11);
    }

    private void buyRefused() {
        sentence("Promise 7", "INVALID_ARGUMENT if an argument is out of range");
        refusedOf(Scenes::busy, "buy for ramp", (x, ramp) -> x.buy(ramp, 2, 2, 0), INVALID, LEAST, 3, GREATEST);
        refusedOf(Scenes::busy, "buy from", (x, first) -> x.buy(1, first, 2, 0), INVALID, LEAST, -1, GREATEST);
        refusedOf(Scenes::busy, "buy to", (x, last) -> x.buy(1, 2, last, 0), INVALID, LEAST, -1, GREATEST);
        refusedOf(Scenes::busy, "buy for a draught", (x, d) -> x.buy(1, 2, 2, d), INVALID, LEAST, GREATEST);
        refusedOf(Scenes::twelvePermits, "buy with all", (x, all) -> x.buy(all, all, all, all), INVALID, -1, 301);
        sentence("Promise 7", "ILLEGAL_STATE if first is before today");
        refusedOf(Scenes::busy, "buy on day 2 from", (x, first) -> x.buy(1, first, 2, 0), ILLEGAL, 0, 1);
        is("buy on day 2 from 2", Scenes.busy().buy(1, 2, 2, 0), 5);
        refused(Scenes::lastDay, "buy on day 181 from 180", x -> x.buy(0, 180, 181, 0), ILLEGAL);
        is("buy on day 181 from 181", Scenes.lastDay().buy(0, 181, 181, 0), 1);
        sentence("Promise 7", "or it does not fit on this ramp for these days");
        refused(Scenes::busy, "buy where it is closed", x -> x.buy(2, 2, 2, 51), ILLEGAL);
        is("buy where it is just open", Scenes.busy().buy(2, 2, 2, 50), 5);
        refused(Scenes::busy, "buy where no boat is left", x -> x.buy(2, 4, 5, 0), ILLEGAL);
        is("buy where a boat is left", Scenes.busy().buy(2, 3, 4, 0), 5);
        sentence("Promise 7", "CAPACITY_EXCEEDED if there are 12 permits");
        refused(Scenes::twelvePermits, "a thirteenth permit", x -> x.buy(1, 0, 0, 0), FULL);
        refused(Scenes::twelvePermits, "a thirteenth permit to the end", x -> x.buy(0, 152, 181, 300), FULL);
    }

    // ---- move

    private void moveArguments() {
        sentence("Promise 8", "`permit`: a permit");
        range(Scenes::onePermit, "move of the only permit", 0, 0, (x, permit) -> x.move(permit, 1), 0, 0);
        range(Scenes::twelvePermits, "move of permit", 0, 11, (x, permit) -> x.move(permit, 1), 0, 0);
        refusedOf(Scenes::fourRamps, "move without permits", (x, permit) -> x.move(permit, 1), INVALID, -1, 0);
        sentence("Promise 8", "`ramp`: a ramp");
        range(Probe.after(Scenes::fourRamps, x -> x.buy(1, 0, 0, 0)), "move to ramp", 0, 3,
            (x, ramp) -> x.move(0, ramp), 0, 0);
        sentence("Promise 8", "This is an action");
        recorded(Scenes::busy, "move(0, 1)", x -> x.move(0, 1));
        recorded(Scenes::onePermit, "move(0, 1) for the same fee", x -> x.move(0, 1));
    }

    /** What move() answers on a day for a permit for 30 days from day 0 on. */
    private static int moveOfThirty(int fee, int newFee, int day) {
        RampPermits x = new RampPermits();
        x.addRamp(1700, 1, fee);
        x.addRamp(1700, 1, newFee);
        x.buy(0, 0, 29, 0);
        Calls.passDays(x, day);
        return x.move(0, 1);
    }

    private void moveAnswers() {
        sentence("Promise 8",
            "Returns the difference of the new fee and the old one for all its days to come together");
        is("the greatest difference", moveOfThirty(1, 500, 0), 14970);
        is("the least difference", moveOfThirty(500, 1, 0), -14970);
        is("no difference", moveOfThirty(7, 7, 0), 0);
        is("1 more", moveOfThirty(7, 8, 0), 30);
        is("1 less", moveOfThirty(7, 6, 0), -30);
        is("1 more on its second day", moveOfThirty(7, 8, 1), 29);
        is("1 more on its last day", moveOfThirty(7, 8, 29), 1);
        is("1 less on its last day", moveOfThirty(7, 6, 29), -1);
        is("behind its last day", moveOfThirty(7, 8, 30), ILLEGAL);
        RampPermits x = Scenes.fourRamps();
        x.setFee(1, 12);
        x.buy(0, 150, 179, 0);
        is("2 more before its first day", x.move(0, 1), 60);
    }

    private void moveRefused() {
        sentence("Promise 8", "INVALID_ARGUMENT if an argument is out of range");
        refusedOf(Scenes::busy, "move of permit", (x, permit) -> x.move(permit, 1), INVALID, LEAST, 5, GREATEST);
        refusedOf(Scenes::busy, "move to ramp", (x, ramp) -> x.move(0, ramp), INVALID, LEAST, -1, 3, GREATEST);
        refusedOf(Scenes::busy, "move of permit to ramp", (x, all) -> x.move(all, all), INVALID, -1, 5);
        sentence("Promise 8", "ILLEGAL_STATE if it has no days to come");
        is("on its last day", Scenes.onDay(2).move(0, 1), 0);
        refused(() -> Scenes.onDay(3), "move on the day behind its last", x -> x.move(0, 1), ILLEGAL);
        refused(Scenes::busy, "move of a cancelled permit", x -> x.move(1, 0), ILLEGAL);
        sentence("Promise 8", "or is for this ramp already");
        refused(Scenes::onePermit, "move to its ramp", x -> x.move(0, 0), ILLEGAL);
        refused(Scenes::busy, "move to the ramp that it was moved to", x -> x.move(2, 1), ILLEGAL);
        is("back to the ramp that it was for", Scenes.busy().move(2, 0), 54);
        RampPermits full = new RampPermits();
        full.addRamp(1700, 1, 10);
        full.buy(0, 0, 0, 0);
        is("move of a ramp's only boat to it", full.move(0, 0), ILLEGAL);
    }

    private void moveWhereItDoesNotFit() {
        sentence("Promise 8", "or does not fit on it for its days to come");
        RampPermits x = new RampPermits();
        x.addRamp(1700, 3, 10);
        x.addRamp(1900, 1, 10);
        x.buy(0, 0, 3, 100);
        x.buy(1, 0, 0, 0);
        x.buy(0, 3, 3, 100);
        is("full today", x.move(0, 1), ILLEGAL);
        is("before its first day, full on another day", x.move(2, 1), 0);
        x.pass(0);
        is("full on its last day", x.move(0, 1), ILLEGAL);
        x.cancel(2);
        x.setRate(0, -1);
        is("closed from tomorrow on", x.move(0, 1), ILLEGAL);
        x.setRate(0, 0);
        x.setLevel(1999);
        is("closed today", x.move(0, 1), ILLEGAL);
        x.setLevel(2000);
        is("full on a day that has passed only", x.move(0, 1), 0);
        RampPermits y = new RampPermits();
        y.addRamp(1700, 1, 10);
        y.addRamp(1900, 1, 10);
        y.buy(0, 1, 2, 0);
        y.setLevel(1899);
        y.setRate(0, 1);
        is("closed before its first day only", y.move(0, 1), 0);
        is("back where it is open", y.move(0, 0), 0);
        y.setLevel(1902);
        y.setRate(0, -1);
        is("closed behind its last day only", y.move(0, 1), 0);
    }

    // ---- cancel and refund

    private void cancel() {
        sentence("Promise 9", "Cancels a permit, which has no days to come then");
        RampPermits x = Scenes.onePermit();
        x.cancel(0);
        is("permit(0, 11)", x.permit(0, 11), 0);
        is("permit(0, 12)", x.permit(0, 12), 1);
        x.setLevel(0);
        is("days lost when one of its days passes at level 0", x.pass(0), 0);
        is("permit(0, 10)", x.permit(0, 10), 0);
        sentence("Promise 9", "`permit`: a permit");
        range(Scenes::onePermit, "cancel of the only permit", 0, 0, RampPermits::cancel, 15, 15);
        range(Scenes::twelvePermits, "cancel of permit", 0, 11, RampPermits::cancel, 10, 10);
        sentence("Promise 9", "This is an action");
        recorded(Scenes::busy, "cancel(4)", y -> y.cancel(4));
        sentence("Promise 9", "Returns the amount that is owed for this");
        RampPermits owed = Scenes.onePermit();
        owed.setFee(1, 1);
        owed.move(0, 1);
        is("cancel of a permit with 27 owed, at a fee of 1", owed.cancel(0), 0);
        is("permit(0, 7)", owed.permit(0, 7), 27);
        RampPermits most = new RampPermits();
        most.addRamp(1700, 1, 500);
        most.buy(0, 0, 29, 0);
        most.setLevel(1699);
        is("cancel of the dearest permit on closed days", most.cancel(0), 15000);
        sentence("Promise 9", "INVALID_ARGUMENT if there is no such permit");
        refusedOf(Scenes::busy, "cancel", RampPermits::cancel, INVALID, LEAST, -1, 5, 12, GREATEST);
        refusedOf(Scenes::fourRamps, "cancel without permits", RampPermits::cancel, INVALID, -1, 0);
        sentence("Promise 9", "ILLEGAL_STATE if it has no days to come");
        is("cancel on its last day", Scenes.onDay(2).cancel(0), 5);
        refused(() -> Scenes.onDay(3), "cancel on the day behind its last", y -> y.cancel(0), ILLEGAL);
        refused(Scenes::busy, "cancel of a cancelled permit", y -> y.cancel(1), ILLEGAL);
    }

    private void refund() {
        sentence("Promise 10", "Refunds all that is owed for a permit");
        RampPermits all = Scenes.onePermit();
        all.setLevel(0);
        all.pass(0);
        all.pass(0);
        all.cancel(0);
        is("refund of two lost days and a cancelled one", all.refund(0), 30);
        is("permit(0, 7)", all.permit(0, 7), 0);
        sentence("Promise 10", "`permit`: a permit");
        range(Scenes::onePermitOwed, "refund of the only permit", 0, 0, RampPermits::refund, 10, 10);
        range(Scenes::twelvePermitsOwed, "refund of permit", 0, 11, RampPermits::refund, 10, 10);
        sentence("Promise 10", "This is an action");
        recorded(Scenes::onePermitOwed, "refund(0)", x -> x.refund(0));
        sentence("Promise 10", "Returns the amount");
        RampPermits least = Scenes.onePermit();
        least.setFee(1, 9);
        Calls.passDays(least, 2);
        least.move(0, 1);
        is("the least refund", least.refund(0), 1);
        RampPermits most = new RampPermits();
        most.addRamp(1700, 1, 500);
        most.buy(0, 0, 29, 0);
        most.setLevel(0);
        most.cancel(0);
        is("all that was paid", most.refund(0), 15000);
        sentence("Promise 10", "INVALID_ARGUMENT if there is no such permit");
        refusedOf(Scenes::busy, "refund", RampPermits::refund, INVALID, LEAST, -1, 5, 12, GREATEST);
        refusedOf(Scenes::fourRamps, "refund without permits", RampPermits::refund, INVALID, -1, 0);
        sentence("Promise 10", "ILLEGAL_STATE if nothing is owed");
        refused(Scenes::onePermit, "refund of what was just bought", x -> x.refund(0), ILLEGAL);
        refused(Scenes::busy, "refund of what was refunded", x -> x.refund(0), ILLEGAL);
        RampPermits nothing = new RampPermits();
        nothing.addRamp(1700, 1, 1);
        nothing.buy(0, 0, 29, 0);
        nothing.cancel(0);
        is("refund of halves of 1", nothing.refund(0), ILLEGAL);
    }

    // ---- pass

    private void passLevel() {
        sentence("Promise 11",
            "then the level changes (but stays at least 0 and at most 5000), and the next day is today");
        int[][] cases = {{0, -1, 0}, {0, -500, 0}, {499, -500, 0}, {500, -500, 0}, {501, -500, 1}, {0, 0, 0},
            {0, 500, 500}, {5000, 1, 5000}, {5000, 500, 5000}, {4501, 500, 5000}, {4500, 500, 5000},
            {4499, 500, 4999}, {5000, 0, 5000}, {5000, -500, 4500}};
        for (int[] c : cases) {
            RampPermits x = new RampPermits();
            x.setLevel(c[0]);
            x.setRate(0, 50);
            is("pass(" + c[1] + ") at " + c[0], x.pass(c[1]), 0);
            is("level after pass(" + c[1] + ") at " + c[0], x.count(1), c[2]);
            is("today after pass(" + c[1] + ") at " + c[0], x.count(0), 1);
        }
        is("today after a pass on day 180", Probe.after(() -> Scenes.onDay(180), x -> x.pass(0)).get().count(0), 181);
    }

    private void passDays() {
        sentence("Promise 11", "its days to come of permits are used or lost");
        RampPermits x = new RampPermits();
        x.addRamp(1700, 20, 10);
        x.buy(0, 1, 2, 0);
        int[] used = {0, 0, 1, 2, 2};
        for (int today = 0; today < used.length; today++) {
            is("days used before day " + today, x.permit(0, 9), used[today]);
            x.pass(0);
        }
        sentence("Promise 11", "Returns the number of days of permits that are lost");
        RampPermits y = Scenes.twelvePermits();
        Calls.passDays(y, 2);
        y.setLevel(1700);
        is("no day is lost on the day before", y.pass(-1), 0);
        is("twelve are lost on their first day", y.pass(1), 12);
        y.cancel(0);
        is("none is lost on their last day", y.pass(-1), 0);
        is("none is lost on the day behind", y.pass(0), 0);
        is("days lost", y.permit(11, 10), 1);
        is("days used", y.permit(11, 9), 1);
        is("without permits", Scenes.oneRamp().pass(-500), 0);
    }

    private void passRefused() {
        sentence("Promise 11", "`change`: -500 to 500");
        range(Scenes::busy, "pass", -500, 500, RampPermits::pass, 0, 0);
        sentence("Promise 11", "This is an action");
        recorded(Scenes::busy, "pass(500)", x -> x.pass(500));
        recorded(() -> Scenes.onDay(180), "pass(0) on day 180", x -> x.pass(0));
        sentence("Promise 11", "INVALID_ARGUMENT if change is out of range");
        refusedOf(Scenes::busy, "pass", RampPermits::pass, INVALID, LEAST, -501, 501, GREATEST);
        sentence("Promise 11", "ILLEGAL_STATE if today is day 181");
        is("pass on day 180", Scenes.onDay(180).pass(0), 0);
        refused(Scenes::lastDay, "pass on day 181", x -> x.pass(0), ILLEGAL);
        refusedOf(Scenes::lastDay, "pass on day 181", RampPermits::pass, ILLEGAL, -500, 500);
    }

    // ---- launch

    private void launch() {
        sentence("Promise 12", "`ramp`: a ramp");
        range(Scenes::oneRamp, "launch on the only ramp", 0, 0, (x, ramp) -> x.launch(ramp, 0, -1), 60, 60);
        range(Scenes::fourRamps, "launch on ramp", 0, 3, (x, ramp) -> x.launch(ramp, 0, -1), 60, 60);
        refusedOf(Scenes::fresh, "launch without ramps", (x, ramp) -> x.launch(ramp, 0, -1), INVALID, -1, 0);
        sentence("Promise 12", "`draught`: 0 to 300");
        range(Scenes::onePermit, "launch with a draught", 0, 300, (x, draught) -> x.launch(0, draught, 0), 0, 20);
        sentence("Promise 12", "`permit`: a permit, or -1 for none");
        range(Scenes::oneRamp, "launch without permits, with permit", -1, -1,
            (x, permit) -> x.launch(0, 0, permit), 60, 60);
        range(Scenes::onePermit, "launch with permit", -1, 0, (x, permit) -> x.launch(0, 0, permit), 60, 0);
        range(Scenes::twelvePermits, "launch with permit", -1, 11, (x, permit) -> x.launch(0, 0, permit), 60, 60);
        sentence("Promise 12", "This is an action");
        recorded(Scenes::busy, "launch(0, 300, -1)", x -> x.launch(0, 300, -1));
        recorded(Scenes::onePermit, "launch(0, 100, 0) without a fine", x -> x.launch(0, 100, 0));
        sentence("Promise 12", "Returns the fine, 0 if no reason applies");
        RampPermits x = Scenes.onePermit();
        is("no reason", x.launch(0, 100, 0), 0);
        is("no fine is counted", x.count(11) + x.count(12) + x.count(13), 0);
        x.setFine(3, 0);
        is("a fine of 0", x.launch(0, 101, 0), 0);
        is("it is counted", x.count(13), 1);
        x.setFine(3, 500);
        is("the greatest fine", x.launch(0, 101, 0), 500);
        sentence("Promise 12", "INVALID_ARGUMENT if an argument is out of range");
        refusedOf(Scenes::busy, "launch on ramp", (y, ramp) -> y.launch(ramp, 0, 0), INVALID, LEAST, 3, GREATEST);
        refusedOf(Scenes::busy, "launch with a draught", (y, d) -> y.launch(0, d, 0), INVALID, LEAST, GREATEST);
        refusedOf(Scenes::busy, "launch with permit", (y, p) -> y.launch(0, 0, p), INVALID, LEAST, -2, 5, GREATEST);
        refusedOf(Scenes::busy, "launch with all", (y, all) -> y.launch(all, all, all), INVALID, -2, 301);
    }
}
