/** Boundary cases of the promises 20 to 24. */
final class LookBoundaries extends Boundaries {
    LookBoundaries(Due due, Claims claims) {
        super(due, claims);
    }

    @Override
    void testAll() {
        countOfSeasons();
        countOfTheRest();
        countOfFines();
        countRefused();
        rampProperties();
        rampPermits();
        rampDraught();
        rampRefused();
        permitProperties();
        permitDays();
        permitRefused();
        money();
        moneyRefused();
        rate();
    }

    // ---- count

    private void countOfSeasons() {
        sentence("Promise 20",
            "0 today, 1 the level, 2 the number of ramps, 3 of permits, 4 of permits with days to come");
        is("the first today", new RampPermits().count(0), 0);
        is("the last today", Scenes.lastDay().count(0), 181);
        RampPermits x = new RampPermits();
        x.setLevel(0);
        is("the least level", x.count(1), 0);
        x.setLevel(5000);
        is("the greatest level", x.count(1), 5000);
        is("no ramp", new RampPermits().count(2), 0);
        is("all ramps", Scenes.fourRamps().count(2), 4);
        is("no permit", Scenes.oneRamp().count(3), 0);
        RampPermits y = Scenes.twelvePermits();
        is("all permits", y.count(3), 12);
        is("all with days to come", y.count(4), 12);
        y.cancel(11);
        is("permits, one cancelled", y.count(3), 12);
        is("with days to come, one cancelled", y.count(4), 11);
        Calls.passDays(y, 4);
        is("with days to come on their last day", y.count(4), 11);
        y.pass(0);
        is("with days to come behind it", y.count(4), 0);
        is("permits behind it", y.count(3), 12);
    }

    private void countOfTheRest() {
        sentence("Promise 20", "5 of snapshots, 6 of states in the history, 7 the length of the text");
        RampPermits x = new RampPermits();
        is("no snapshot", x.count(5), 0);
        x.take(1);
        is("one snapshot", x.count(5), 1);
        x.take(1);
        is("one snapshot, taken twice", x.count(5), 1);
        x.take(0);
        is("two snapshots", x.count(5), 2);
        is("no state", new RampPermits().count(6), 0);
        is("three states", x.count(6), 3);
        x.take(0);
        x.take(0);
        is("five states", x.count(6), 5);
        x.take(0);
        is("no more than five states", x.count(6), 5);
        is("no text", new RampPermits().count(7), 0);
        is("a text of 1", Probe.after(Scenes::fresh, y -> y.append(1)).get().count(7), 1);
        is("a text of 140", Scenes.fullText().count(7), 140);
    }

    private void countOfFines() {
        sentence("Promise 20", "11 to 13 how often was fined for the reasons 1 to 3 (also an amount of 0)");
        for (int amount : new int[] {0, 500}) {
            RampPermits x = Scenes.onePermit();
            for (int reason = 1; reason <= 3; reason++) {
                is("fined for " + reason + " at first", x.count(10 + reason), 0);
                x.setFine(reason, amount);
                is("amount for " + reason, x.count(7 + reason), amount);
            }
            is("launch without a permit", x.launch(0, 0, -1), amount);
            for (int i = 0; i < 3; i++) {
                is("launch that is too deep", x.launch(0, 101, 0), amount);
            }
            x.setLevel(0);
            for (int i = 0; i < 2; i++) {
                is("launch where it is closed", x.launch(0, 0, 0), amount);
            }
            x.launch(0, 301, 0);
            is("fined for 1", x.count(11), 2);
            is("fined for 2", x.count(12), 1);
            is("fined for 3", x.count(13), 3);
        }
        sentence("Promise 20", "8 to 10 the amounts of fines for the reasons 1 to 3");
        is("amount for 1 at first", new RampPermits().count(8), 40);
        is("amount for 2 at first", new RampPermits().count(9), 60);
        is("amount for 3 at first", new RampPermits().count(10), 20);
    }

    private void countRefused() {
        sentence("Promise 20", "Returns the number");
        is("the least count", new RampPermits().count(0), 0);
        is("the greatest count", Probe.after(Scenes::fresh, x -> x.setLevel(5000)).get().count(1), 5000);
        is("the last count", Scenes.busy().count(13), 1);
        sentence("Promise 20", "INVALID_ARGUMENT if what is out of range");
        refusedOf(Scenes::busy, "count", RampPermits::count, INVALID, LEAST, -1, 14, GREATEST);
    }

    // ---- ramp

    private void rampProperties() {
        sentence("Promise 21", "`ramp`: a ramp");
        range(Scenes::oneRamp, "fee of the only ramp", 0, 0, (x, ramp) -> x.ramp(ramp, 2), 10, 10);
        range(Scenes::fourRamps, "fee of ramp", 0, 3, (x, ramp) -> x.ramp(ramp, 2), 10, 10);
        refusedOf(Scenes::fresh, "fee without ramps", (x, ramp) -> x.ramp(ramp, 2), INVALID, -1, 0, 3);
        sentence("Promise 21", "0 its end, 1 its boats, 2 its fee");
        RampPermits x = new RampPermits();
        x.addRamp(0, 1, 1);
        x.addRamp(4000, 20, 500);
        int[][] want = {{0, 1, 1}, {4000, 20, 500}};
        for (int ramp = 0; ramp <= 1; ramp++) {
            for (int what = 0; what <= 2; what++) {
                is("ramp(" + ramp + ", " + what + ")", x.ramp(ramp, what), want[ramp][what]);
            }
        }
    }

    private void rampPermits() {
        sentence("Promise 21",
            "3 the number of permits with days to come for it, 4 how many of these have today as a day to come");
        RampPermits x = Scenes.fourRamps();
        is("no permit", x.ramp(0, 3), 0);
        is("no permit today", x.ramp(0, 4), 0);
        x.buy(0, 1, 2, 0);
        x.buy(0, 2, 3, 0);
        x.buy(1, 1, 2, 0);
        int[][] want = {{2, 0}, {2, 1}, {2, 2}, {1, 1}, {0, 0}};
        for (int today = 0; today < want.length; today++) {
            is("with days to come on day " + today, x.ramp(0, 3), want[today][0]);
            is("today on day " + today, x.ramp(0, 4), want[today][1]);
            x.pass(0);
        }
        RampPermits y = Scenes.twelvePermits();
        is("all twelve", y.ramp(0, 3), 12);
        is("none of them today", y.ramp(0, 4), 0);
        Calls.passDays(y, 3);
        is("all twelve today", y.ramp(0, 4), 12);
        y.move(0, 1);
        y.cancel(11);
        is("one moved, one cancelled", y.ramp(0, 3), 10);
        is("one moved, one cancelled, today", y.ramp(0, 4), 10);
        is("the moved one", y.ramp(1, 3), 1);
        is("the moved one today", y.ramp(1, 4), 1);
    }

    private void rampDraught() {
        sentence("Promise 21",
            "5 the greatest draught for which it is open at the level, at most 300 (NONE if it is closed for all)");
        int[][] cases = {{0, 0, 0}, {1, 0, 1}, {299, 0, 299}, {300, 0, 300}, {301, 0, 300}, {5000, 0, 300},
            {0, 1, NONE}, {0, 4000, NONE}, {3999, 4000, NONE}, {4000, 4000, 0}, {4299, 4000, 299},
            {4300, 4000, 300}, {4301, 4000, 300}, {5000, 4000, 300}};
        for (int[] c : cases) {
            RampPermits x = new RampPermits();
            x.addRamp(c[1], 1, 1);
            x.setLevel(c[0]);
            x.setRate(0, -50);
            is("draught at " + c[0] + " with an end of " + c[1], x.ramp(0, 5), c[2]);
        }
    }

    private void rampRefused() {
        sentence("Promise 21", "Returns the property");
        is("the first property", Scenes.busy().ramp(0, 0), 1800);
        is("the last property", Scenes.busy().ramp(0, 5), 200);
        sentence("Promise 21", "INVALID_ARGUMENT if there is no such ramp or what is out of range");
        refusedOf(Scenes::busy, "end of ramp", (x, ramp) -> x.ramp(ramp, 0), INVALID, LEAST, -1, 3, 4, GREATEST);
        refusedOf(Scenes::busy, "draught of ramp", (x, ramp) -> x.ramp(ramp, 5), INVALID, LEAST, -1, 3, GREATEST);
        refusedOf(Scenes::busy, "property of ramp 0", (x, what) -> x.ramp(0, what), INVALID, LEAST, -1, 6, GREATEST);
        refusedOf(Scenes::busy, "ramp of both", (x, both) -> x.ramp(both, both), INVALID, -1, 6);
    }

    // ---- permit

    private void permitProperties() {
        sentence("Promise 22", "`permit`: a permit");
        range(Scenes::onePermit, "fee of the only permit", 0, 0, (x, permit) -> x.permit(permit, 4), 10, 10);
        range(Scenes::twelvePermits, "fee of permit", 0, 11, (x, permit) -> x.permit(permit, 4), 10, 10);
        refusedOf(Scenes::fourRamps, "fee without permits", (x, permit) -> x.permit(permit, 4), INVALID, -1, 0, 11);
        sentence("Promise 22",
            "0 its ramp, 1 its first and 2 its last day, 3 its draught, 4 its fee for a day, 5 the amount paid");
        RampPermits x = Scenes.fourRamps();
        x.setFee(0, 1);
        x.setFee(3, 500);
        x.buy(0, 0, 0, 0);
        x.buy(3, 152, 181, 300);
        int[][] want = {{0, 0, 0, 0, 1, 1, 0, 0, 0, 0, 0, 1, 0}, {3, 152, 181, 300, 500, 15000, 0, 0, 0, 0, 0, 30, 0}};
        for (int permit = 0; permit <= 1; permit++) {
            for (int what = 0; what <= 12; what++) {
                is("permit(" + permit + ", " + what + ")", x.permit(permit, what), want[permit][what]);
            }
        }
    }

    private void permitDays() {
        sentence("Promise 22",
            "9 the days used, 10 the days lost, 11 the days to come, 12 1 if it is cancelled and 0 if not");
        RampPermits x = Scenes.oneRamp();
        x.buy(0, 1, 2, 0);
        x.buy(0, 1, 2, 300);
        int[][] wantUsed = {{0, 0, 2, 0}, {0, 0, 2, 0}, {1, 0, 1, 0}, {2, 0, 0, 0}, {2, 0, 0, 0}};
        int[][] wantLost = {{0, 0, 2, 0}, {0, 0, 2, 0}, {0, 1, 1, 0}, {0, 2, 0, 0}, {0, 2, 0, 0}};
        x.setLevel(1999);
        for (int today = 0; today < wantUsed.length; today++) {
            for (int what = 9; what <= 12; what++) {
                is("permit(0, " + what + ") on day " + today, x.permit(0, what), wantUsed[today][what - 9]);
                is("permit(1, " + what + ") on day " + today, x.permit(1, what), wantLost[today][what - 9]);
            }
            x.pass(0);
        }
        RampPermits y = Scenes.onDay(1);
        y.cancel(0);
        is("days used when cancelled", y.permit(0, 9), 1);
        is("days to come when cancelled", y.permit(0, 11), 0);
        is("cancelled", y.permit(0, 12), 1);
        is("its last day when cancelled", y.permit(0, 2), 2);
        sentence("Promise 22", "5 the amount paid, 6 kept, 7 owed, 8 refunded");
        RampPermits z = Scenes.onePermitOwed();
        z.refund(0);
        z.cancel(0);
        int[] want = {30, 10, 10, 10};
        for (int what = 5; what <= 8; what++) {
            is("permit(0, " + what + ") lost, refunded and cancelled", z.permit(0, what), want[what - 5]);
        }
    }

    private void permitRefused() {
        sentence("Promise 22", "Returns the property");
        is("the first property", Scenes.busy().permit(4, 0), 2);
        is("the last property", Scenes.busy().permit(1, 12), 1);
        sentence("Promise 22", "INVALID_ARGUMENT if there is no such permit or what is out of range");
        refusedOf(Scenes::busy, "ramp of permit", (x, permit) -> x.permit(permit, 0), INVALID, LEAST, -1, 5, 12,
            GREATEST);
        refusedOf(Scenes::busy, "property of permit 0", (x, what) -> x.permit(0, what), INVALID, LEAST, -1, 13,
            GREATEST);
        refusedOf(Scenes::busy, "permit of both", (x, both) -> x.permit(both, both), INVALID, -1, 13);
    }

    // ---- money and rate

    private void money() {
        sentence("Promise 23", "0 paid, 1 kept, 2 owed, 3 refunded, 4 the fees of all days to come, 5 all fines");
        for (int what = 0; what <= 5; what++) {
            is("money(" + what + ") of a new object", new RampPermits().money(what), 0);
            is("money(" + what + ") without permits", Scenes.fourRamps().money(what), 0);
        }
        RampPermits x = new RampPermits();
        x.addRamp(1700, 20, 500);
        for (int i = 0; i < 12; i++) {
            x.buy(0, 0, 29, 0);
        }
        is("the most that can be paid at once", x.money(0), 180000);
        is("the most fees of days to come", x.money(4), 180000);
        x.pass(-301);
        is("the most that is kept on a day", x.money(1), 6000);
        is("fees of days to come on the next day", x.money(4), 174000);
        x.pass(0);
        is("the most that is owed on a day", x.money(2), 6000);
        x.refund(11);
        is("owed when one of twelve is refunded", x.money(2), 5500);
        is("refunded when one of twelve is", x.money(3), 500);
        x.cancel(0);
        is("fees of days to come when one of twelve is cancelled", x.money(4), 154000);
        is("owed when one of twelve is cancelled on closed days", x.money(2), 19500);
        is("fines at first", x.money(5), 0);
        x.setFine(1, 500);
        x.launch(0, 0, 0);
        x.setFine(1, 0);
        x.launch(0, 0, 0);
        is("a fine of 500 and one of 0", x.money(5), 500);
        is("paid", x.money(0), x.money(1) + x.money(2) + x.money(3) + x.money(4));
    }

    private void moneyRefused() {
        sentence("Promise 23", "Returns the amount");
        is("the first amount", Scenes.onePermit().money(0), 30);
        is("the last amount", Probe.after(Scenes::onePermit, x -> x.launch(0, 0, -1)).get().money(5), 60);
        sentence("Promise 23", "INVALID_ARGUMENT if what is out of range");
        refusedOf(Scenes::busy, "money", RampPermits::money, INVALID, LEAST, -1, 6, GREATEST);
    }

    private void rate() {
        sentence("Promise 24", "`week`: 0 to 25");
        range(Scenes::busy, "rate", 0, 25, RampPermits::rate, -7, 9);
        sentence("Promise 24", "Returns the rate;");
        RampPermits x = new RampPermits();
        for (int week = 0; week <= 25; week++) {
            is("rate(" + week + ") at first", x.rate(week), 0);
        }
        x.setRate(0, -50);
        x.setRate(25, 50);
        is("the least rate", x.rate(0), -50);
        is("the rate of the next week", x.rate(1), 0);
        is("the rate of the last but one week", x.rate(24), 0);
        is("the greatest rate", x.rate(25), 50);
        sentence("Promise 24", "INVALID_ARGUMENT if week is out of range");
        refusedOf(Scenes::busy, "rate", RampPermits::rate, INVALID, LEAST, -1, 26, GREATEST);
    }
}
