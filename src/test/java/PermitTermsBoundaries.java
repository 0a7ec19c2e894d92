/** Boundary cases of the sections Permits, Money of a permit, and Fines. */
final class PermitTermsBoundaries extends Boundaries {
    PermitTermsBoundaries(Due due, Claims claims) {
        super(due, claims);
    }

    @Override
    void testAll() {
        atMostTwelvePermits();
        numbersNeverChange();
        daysOfAPermit();
        feeOfAPermit();
        daysToCome();
        daysToComeOfTheLastDay();
        fitsWhereOpen();
        fitsAtTheForecastLevel();
        fitsWhereBoatsAreLeft();
        fitsBesideOthers();
        amountsAtFirst();
        paidWhenBought();
        moneyOfAMove();
        moneyOfACancellation();
        moneyOfAPassedDay();
        moneyOfARefund();
        closedIsFined();
        noPermitIsFined();
        tooDeepIsFined();
        amountsOfFines();
        firstReasonThatApplies();
    }

    private void property(RampPermits x, String when, int permit, int what, int want) {
        is("permit(" + permit + ", " + what + ") " + when, x.permit(permit, what), want);
    }

    /** What permit(permit, 5) to permit(permit, 8) answer. */
    private void money(RampPermits x, String when, int permit, int paid, int kept, int owed, int refunded) {
        property(x, when, permit, 5, paid);
        property(x, when, permit, 6, kept);
        property(x, when, permit, 7, owed);
        property(x, when, permit, 8, refunded);
    }

    // ---- Permits

    private void atMostTwelvePermits() {
        sentence("Permits", "There are at most 12 permits, numbered from 0");
        RampPermits x = new RampPermits();
        x.addRamp(1700, 20, 10);
        for (int permit = 0; permit <= 11; permit++) {
            is("permit " + permit + " before it is bought", x.permit(permit, 1), INVALID);
            is("a permit's number", x.buy(0, permit, permit, 0), permit);
            is("its first day", x.permit(permit, 1), permit);
        }
        is("a thirteenth permit", x.buy(0, 20, 20, 0), FULL);
        is("permit(12, 0)", x.permit(12, 0), INVALID);
        is("permits", x.count(3), 12);
        x.cancel(11);
        is("a thirteenth permit when one is cancelled", x.buy(0, 20, 20, 0), FULL);
        Calls.passDays(x, 12);
        is("permits with days to come", x.count(4), 0);
        is("a thirteenth permit when all have passed", x.buy(0, 20, 20, 0), FULL);
        RampPermits y = Scenes.twelvePermits();
        y.undo();
        is("a twelfth permit in place of the undone one", y.buy(0, 20, 20, 0), 11);
    }

    private void numbersNeverChange() {
        sentence("Permits", "their numbers never change");
        RampPermits x = Scenes.twelvePermits();
        x.cancel(0);
        x.cancel(5);
        x.move(11, 1);
        Calls.passDays(x, 5);
        is("permits", x.count(3), 12);
        for (int permit = 0; permit <= 11; permit++) {
            property(x, "behind its days", permit, 12, permit == 0 || permit == 5 ? 1 : 0);
            property(x, "behind its days", permit, 0, permit == 11 ? 1 : 0);
            property(x, "behind its days", permit, 1, 3);
        }
    }

    private void daysOfAPermit() {
        sentence("Permits", "for the days from a first to a last one");
        int[][] spans = {{0, 0}, {0, 29}, {1, 1}, {152, 181}, {181, 181}};
        for (int[] span : spans) {
            RampPermits x = Scenes.oneRamp();
            x.buy(0, span[0], span[1], 300);
            String when = "for " + span[0] + " to " + span[1];
            property(x, when, 0, 0, 0);
            property(x, when, 0, 1, span[0]);
            property(x, when, 0, 2, span[1]);
            property(x, when, 0, 3, 300);
            property(x, when, 0, 11, span[1] - span[0] + 1);
        }
        RampPermits x = Scenes.oneRamp();
        x.buy(0, 2, 3, 300);
        int[] fines = {60, 60, 0, 0, 60};
        for (int today = 0; today <= 4; today++) {
            is("launch on day " + today, x.launch(0, 300, 0), fines[today]);
            x.pass(0);
        }
    }

    private void feeOfAPermit() {
        sentence("Permits", "that of its ramp as it is when the permit is bought or moved");
        RampPermits x = Scenes.onePermit();
        property(x, "when bought", 0, 4, 10);
        x.setFee(0, 500);
        x.setFee(1, 1);
        property(x, "when its ramp's fee is another", 0, 4, 10);
        property(x, "when its ramp's fee is another", 0, 5, 30);
        is("fees of days to come when its ramp's fee is another", x.money(4), 30);
        x.move(0, 1);
        property(x, "when moved", 0, 4, 1);
        x.setFee(1, 500);
        property(x, "when its new ramp's fee is another", 0, 4, 1);
        is("the next permit", x.buy(1, 0, 0, 0), 1);
        property(x, "when bought at the new fee", 1, 4, 500);
        x.pass(0);
        property(x, "when a day passes", 0, 6, 1);
    }

    private void daysToCome() {
        sentence("Permits", "Its days from today on are its days to come, as long as it is not cancelled");
        RampPermits x = Scenes.oneRamp();
        x.buy(0, 2, 4, 0);
        int[] want = {3, 3, 3, 2, 1, 0, 0};
        for (int today = 0; today < want.length; today++) {
            property(x, "on day " + today, 0, 11, want[today]);
            is("permits with days to come on day " + today, x.count(4), want[today] > 0 ? 1 : 0);
            is("fees of days to come on day " + today, x.money(4), want[today] * 10);
            x.pass(0);
        }
        for (int today = 0; today <= 4; today++) {
            RampPermits y = Scenes.oneRamp();
            y.buy(0, 2, 4, 0);
            Calls.passDays(y, today);
            y.cancel(0);
            property(y, "cancelled on day " + today, 0, 11, 0);
            is("permits with days to come, cancelled on day " + today, y.count(4), 0);
        }
    }

    private void daysToComeOfTheLastDay() {
        sentence("Permits", "Its days from today on are its days to come");
        RampPermits x = Scenes.oneRamp();
        x.buy(0, 180, 181, 0);
        Calls.passDays(x, 180);
        property(x, "on day 180", 0, 11, 2);
        x.pass(0);
        property(x, "on day 181", 0, 11, 1);
        x.pass(0);
        property(x, "on day 181, which cannot pass", 0, 11, 1);
        is("cancel on day 181", x.cancel(0), 5);
        property(x, "cancelled on day 181", 0, 11, 0);
    }

    /** Closed on day 7 only, for any draught above 0 on the days 6 and 8 too. */
    private static RampPermits closedOnDaySeven() {
        RampPermits x = new RampPermits();
        x.addRamp(1700, 1, 10);
        x.setRate(0, -50);
        x.setRate(1, 50);
        return x;
    }

    private void fitsWhereOpen() {
        sentence("Permits", "if on each of them the ramp is open for its draught at the forecast level");
        int[][] fits = {{0, 6}, {6, 6}, {8, 8}, {8, 37}};
        int[][] not = {{7, 7}, {6, 7}, {7, 8}, {6, 8}, {0, 7}, {0, 29}, {7, 36}};
        for (int[] days : fits) {
            is("buy for " + days[0] + " to " + days[1], closedOnDaySeven().buy(0, days[0], days[1], 0), 0);
            is("bestRamp for the same", closedOnDaySeven().bestRamp(days[0], days[1], 0), 0);
        }
        for (int[] days : not) {
            is("buy for " + days[0] + " to " + days[1], closedOnDaySeven().buy(0, days[0], days[1], 0), ILLEGAL);
            is("bestRamp for the same", closedOnDaySeven().bestRamp(days[0], days[1], 0), NONE);
        }
        is("as deep as on its worst day", closedOnDaySeven().buy(0, 0, 5, 50), 0);
        is("deeper by 1", closedOnDaySeven().buy(0, 0, 5, 51), ILLEGAL);
        is("as deep as on its first day", closedOnDaySeven().buy(0, 8, 9, 0), 0);
        is("deeper by 1 on its first day", closedOnDaySeven().buy(0, 8, 9, 1), ILLEGAL);
    }

    private void fitsAtTheForecastLevel() {
        sentence("Permits", "the ramp is open for its draught at the forecast level");
        RampPermits x = Scenes.oneRamp();
        x.setLevel(1699);
        is("closed today, open tomorrow", x.buy(0, 0, 0, 0), ILLEGAL);
        x.setRate(0, 1);
        is("open tomorrow", x.buy(0, 1, 1, 0), 0);
        is("from today on", x.buy(0, 0, 1, 0), ILLEGAL);
        x.setLevel(1700);
        x.setRate(0, -1);
        is("open today", x.buy(0, 0, 0, 0), 1);
        is("closed tomorrow", x.buy(0, 1, 1, 0), ILLEGAL);
        is("until tomorrow", x.buy(0, 0, 1, 0), ILLEGAL);
    }

    private void fitsWhereBoatsAreLeft() {
        sentence("Permits", "fewer other permits for this ramp have this day as a day to come");
        for (int boats : new int[] {1, 2, 11}) {
            RampPermits x = new RampPermits();
            x.addRamp(1700, boats, 10);
            Calls.buyMany(x, boats - 1, 0, 5, 6);
            is("the last of " + boats + " boats", x.buy(0, 5, 6, 0), boats - 1);
            is("no boat on both days", x.buy(0, 5, 6, 0), ILLEGAL);
            is("no boat on the first day", x.buy(0, 5, 5, 0), ILLEGAL);
            is("no boat on the last day", x.buy(0, 6, 6, 0), ILLEGAL);
            is("no boat on its last day", x.buy(0, 4, 5, 0), ILLEGAL);
            is("no boat on its first day", x.buy(0, 6, 7, 0), ILLEGAL);
            is("no boat within", x.buy(0, 4, 7, 0), ILLEGAL);
            is("the day before", x.buy(0, 4, 4, 0), boats);
            is("the day behind", x.bestRamp(7, 7, 0), 0);
        }
        RampPermits x = new RampPermits();
        x.addRamp(1700, 20, 10);
        Calls.buyMany(x, 11, 0, 5, 5);
        is("a twelfth of 20 boats", x.buy(0, 5, 5, 0), 11);
    }

    private void fitsBesideOthers() {
        sentence("Permits", "fewer other permits for this ramp");
        RampPermits x = new RampPermits();
        x.addRamp(1700, 2, 10);
        x.addRamp(1700, 1, 10);
        x.buy(0, 5, 5, 0);
        x.buy(0, 6, 6, 0);
        is("each of two others has a day of its own", x.buy(0, 5, 6, 0), 2);
        is("two others have a day", x.buy(0, 5, 5, 0), ILLEGAL);
        is("the others are for another ramp", x.buy(1, 5, 6, 0), 3);
        x.cancel(0);
        is("one of the others is cancelled", x.buy(0, 5, 5, 0), 4);
        is("move to the ramp that is full on day 5", x.move(3, 0), ILLEGAL);
        x.cancel(2);
        is("move to the ramp with a boat left", x.move(3, 0), 0);
        is("the boat that it left behind", x.buy(1, 5, 6, 0), 5);
    }

    // ---- Money of a permit

    private void amountsAtFirst() {
        sentence("Money of a permit", "an amount kept, an amount owed and an amount refunded, all 0 at first");
        money(Scenes.onePermit(), "at first", 0, 30, 0, 0, 0);
        money(Scenes.twelvePermits(), "at first", 11, 20, 0, 0, 0);
        RampPermits x = Scenes.oneRamp();
        x.take(0);
        x.buy(0, 0, 2, 0);
        x.pass(-301);
        x.pass(0);
        x.refund(0);
        x.cancel(0);
        money(x, "used, lost, refunded and cancelled", 0, 30, 10, 10, 10);
        x.restore(0);
        x.buy(0, 0, 2, 0);
        money(x, "in place of another one", 0, 30, 0, 0, 0);
    }

    private void paidWhenBought() {
        sentence("Money of a permit", "When it is bought, the fee for each of its days is paid");
        int[][] cases = {{1, 0, 0, 1}, {1, 0, 29, 30}, {500, 0, 0, 500}, {500, 0, 29, 15000}, {7, 180, 181, 14}};
        for (int[] c : cases) {
            RampPermits x = new RampPermits();
            x.addRamp(1700, 1, c[0]);
            x.buy(0, c[1], c[2], 0);
            money(x, "for " + c[1] + " to " + c[2] + " at " + c[0], 0, c[3], 0, 0, 0);
        }
    }

    /** A permit for the days 0 to 2 that is moved on a day from a fee of 10 to another. */
    private static RampPermits moved(int day, int fee) {
        RampPermits x = Scenes.onePermit();
        x.setFee(1, fee);
        Calls.passDays(x, day);
        x.move(0, 1);
        return x;
    }

    private void moneyOfAMove() {
        sentence("Money of a permit", "for each of its days to come, paid if the new one is greater");
        money(moved(0, 11), "moved for 1 more", 0, 33, 0, 0, 0);
        money(moved(0, 10), "moved for the same", 0, 30, 0, 0, 0);
        money(moved(0, 9), "moved for 1 less", 0, 30, 0, 3, 0);
        money(moved(0, 500), "moved for the most", 0, 1500, 0, 0, 0);
        money(moved(0, 1), "moved for the least", 0, 30, 0, 27, 0);
        money(moved(2, 11), "moved for 1 more on its last day", 0, 31, 20, 0, 0);
        money(moved(2, 9), "moved for 1 less on its last day", 0, 30, 20, 1, 0);
        RampPermits x = moved(0, 1);
        x.move(0, 0);
        money(x, "moved there and back", 0, 57, 0, 27, 0);
        x.move(0, 1);
        money(x, "moved there again", 0, 57, 0, 54, 0);
    }

    /** A permit for the days 0 to 2 and a draught of 100 that is cancelled. */
    private static RampPermits cancelled(int fee, int day, int level, int rate) {
        RampPermits x = new RampPermits();
        x.addRamp(1700, 1, fee);
        x.buy(0, 0, 2, 100);
        Calls.passDays(x, day);
        x.setLevel(level);
        x.setRate(0, rate);
        x.cancel(0);
        return x;
    }

    private void moneyOfACancellation() {
        sentence("Money of a permit",
            "half of the fee, rounded down for each day by itself, is owed and the rest kept");
        money(cancelled(1, 0, 2000, 0), "cancelled at a fee of 1", 0, 3, 3, 0, 0);
        money(cancelled(2, 0, 2000, 0), "cancelled at a fee of 2", 0, 6, 3, 3, 0);
        money(cancelled(3, 0, 2000, 0), "cancelled at a fee of 3", 0, 9, 6, 3, 0);
        money(cancelled(499, 0, 2000, 0), "cancelled at a fee of 499", 0, 1497, 750, 747, 0);
        money(cancelled(500, 0, 2000, 0), "cancelled at a fee of 500", 0, 1500, 750, 750, 0);
        money(cancelled(3, 2, 2000, 0), "cancelled on its last day", 0, 9, 8, 1, 0);
        sentence("Money of a permit",
            "the whole fee is owed if its ramp is closed for its draught at the forecast level");
        money(cancelled(3, 0, 1800, 0), "just open", 0, 9, 6, 3, 0);
        money(cancelled(3, 0, 1799, 0), "just closed", 0, 9, 0, 9, 0);
        money(cancelled(3, 0, 1799, 1), "closed on its first day", 0, 9, 4, 5, 0);
        money(cancelled(3, 0, 1801, -1), "closed on its last day", 0, 9, 4, 5, 0);
        money(cancelled(3, 0, 1802, -1), "closed on the day behind it", 0, 9, 6, 3, 0);
        money(cancelled(1, 1, 1799, 0), "closed at a fee of 1, on its second day", 0, 3, 1, 2, 0);
    }

    private void moneyOfAPassedDay() {
        sentence("Money of a permit", "its fee is kept if the ramp was open for its draught at the level of this day");
        int[][] cases = {{1800, 1}, {1799, 0}, {5000, 1}, {0, 0}};
        for (int[] c : cases) {
            RampPermits x = Scenes.onePermit();
            x.setRate(0, c[1] == 1 ? -50 : 50);
            x.setLevel(c[0]);
            is("lost on the day at " + c[0], x.pass(c[1] == 1 ? -500 : 500), 1 - c[1]);
            money(x, "passed at " + c[0], 0, 30, c[1] * 10, 10 - c[1] * 10, 0);
            property(x, "passed at " + c[0], 0, 9, c[1]);
            property(x, "passed at " + c[0], 0, 10, 1 - c[1]);
        }
    }

    private void moneyOfARefund() {
        sentence("Money of a permit", "When an amount that is owed is refunded, it is no longer owed");
        RampPermits x = moved(0, 9);
        x.refund(0);
        money(x, "refunded", 0, 30, 0, 0, 3);
        x.setLevel(0);
        x.pass(0);
        money(x, "when another day is lost", 0, 30, 0, 9, 3);
        x.refund(0);
        money(x, "refunded again", 0, 30, 0, 0, 12);
        RampPermits least = cancelled(2, 2, 2000, 0);
        is("the least refund", least.refund(0), 1);
        money(least, "of the least refund", 0, 6, 5, 0, 1);
    }

    // ---- Fines

    private void closedIsFined() {
        sentence("Fines", "1 the ramp is closed for the draught at the level");
        RampPermits x = Scenes.onePermit();
        x.setRate(0, -50);
        x.setLevel(1800);
        is("just open", x.launch(0, 100, 0), 0);
        is("closed for a boat deeper by 1", x.launch(0, 101, 0), 40);
        x.setLevel(1799);
        is("just closed", x.launch(0, 100, 0), 40);
        is("open for a boat less deep by 1", x.launch(0, 99, 0), 0);
        is("fines for the reason 1", x.count(11), 2);
    }

    private void noPermitIsFined() {
        sentence("Fines", "2 there is no permit, or it is not for this ramp, or today is none of its days to come");
        RampPermits x = Scenes.onePermit();
        is("no permit", x.launch(0, 0, -1), 60);
        is("for another ramp", x.launch(1, 0, 0), 60);
        is("for this ramp", x.launch(0, 0, 0), 0);
        x.buy(0, 1, 2, 100);
        is("on the day before its first", x.launch(0, 0, 1), 60);
        x.pass(0);
        is("on its first day", x.launch(0, 0, 1), 0);
        x.pass(0);
        is("on its last day", x.launch(0, 0, 1), 0);
        x.move(1, 1);
        is("moved to another ramp", x.launch(0, 0, 1), 60);
        is("moved to this ramp", x.launch(1, 0, 1), 0);
        x.cancel(1);
        is("cancelled", x.launch(1, 0, 1), 60);
        is("another one on its last day", x.launch(0, 0, 0), 0);
        x.pass(0);
        is("on the day behind its last", x.launch(0, 0, 0), 60);
        is("fines for the reason 2", x.count(12), 6);
    }

    private void tooDeepIsFined() {
        sentence("Fines", "3 the draught is greater than that of the permit");
        RampPermits x = Scenes.onePermit();
        x.buy(0, 0, 0, 0);
        is("as deep as the permit", x.launch(0, 100, 0), 0);
        is("deeper by 1", x.launch(0, 101, 0), 20);
        is("a permit for 0", x.launch(0, 0, 1), 0);
        is("deeper than 0 by 1", x.launch(0, 1, 1), 20);
        is("the deepest", x.launch(0, 300, 0), 20);
        is("fines for the reason 3", x.count(13), 3);
    }

    private void amountsOfFines() {
        sentence("Fines", "Each has an amount of 0 to 500 (at first 40, 60 and 20)");
        int[] first = {40, 60, 20};
        for (int reason = 1; reason <= 3; reason++) {
            int number = reason;
            is("amount for " + reason + " at first", new RampPermits().count(7 + reason), first[reason - 1]);
            range(Scenes::onePermit, "setFine for " + reason, 0, 500, (x, amount) -> x.setFine(number, amount),
                first[reason - 1], first[reason - 1]);
            RampPermits x = Scenes.onePermit();
            x.setFine(reason, 500);
            is("the greatest fine for " + reason, fined(x, reason), 500);
            x.setFine(reason, 0);
            is("the least fine for " + reason, fined(x, reason), 0);
            is("fines for " + reason, x.count(10 + reason), 2);
            is("all fines", x.money(5), 500);
        }
    }

    /** Launches a boat so that a reason applies. */
    private static int fined(RampPermits x, int reason) {
        if (reason == 1) {
            x.setLevel(0);
        }
        return x.launch(0, reason == 3 ? 101 : 0, reason == 2 ? -1 : 0);
    }

    private void firstReasonThatApplies() {
        sentence("Fines", "for the first reason that applies, if any does, also if its amount is 0");
        RampPermits x = Scenes.onePermit();
        is("no reason", x.launch(0, 100, 0), 0);
        x.setLevel(1799);
        is("closed, and no permit", x.launch(0, 100, -1), 40);
        is("closed, for another ramp, and deeper", x.launch(1, 101, 0), 40);
        is("closed, and deeper", x.launch(0, 101, 0), 40);
        x.setFine(1, 0);
        is("closed at an amount of 0, and no permit", x.launch(0, 101, -1), 0);
        x.setLevel(2000);
        is("for another ramp, and deeper", x.launch(1, 101, 0), 60);
        x.setFine(2, 0);
        is("for another ramp at an amount of 0, and deeper", x.launch(1, 101, 0), 0);
        x.setFine(3, 0);
        is("deeper at an amount of 0", x.launch(0, 101, 0), 0);
        is("fines for the reason 1", x.count(11), 4);
        is("fines for the reason 2", x.count(12), 2);
        is("fines for the reason 3", x.count(13), 1);
        is("all fines", x.money(5), 180);
    }
}
