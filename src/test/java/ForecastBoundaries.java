/** Boundary cases of the promises 25 to 31. */
final class ForecastBoundaries extends Boundaries {
    ForecastBoundaries(Due due, Claims claims) {
        super(due, claims);
    }

    @Override
    void testAll() {
        forecast();
        closureDays();
        closureArguments();
        draughtFor();
        draughtForDays();
        draughtForRefused();
        bestRampArguments();
        bestRampChoice();
        bestRampFits();
        bestRampRefused();
        expectedDays();
        expectedArguments();
        part();
        partCut();
        volume();
    }

    // ---- forecast

    private void forecast() {
        sentence("Promise 25", "`day`: 0 to 181");
        range(Scenes::fresh, "forecast", 0, 181, RampPermits::forecast, 2000, 2000);
        sentence("Promise 25", "Returns the level");
        RampPermits x = new RampPermits();
        x.setLevel(0);
        is("forecast(0) at 0", x.forecast(0), 0);
        is("forecast(181) at 0", x.forecast(181), 0);
        x.setLevel(5000);
        is("forecast(0) at 5000", x.forecast(0), 5000);
        is("forecast(181) at 5000", x.forecast(181), 5000);
        for (int week = 0; week <= 25; week++) {
            x.setRate(week, week < 13 ? -50 : 50);
        }
        is("forecast(91), 91 times 50 lower", x.forecast(91), 450);
        is("forecast(181), 90 times 50 higher", x.forecast(181), 4950);
        sentence("Promise 25", "INVALID_ARGUMENT if day is out of range");
        refusedOf(Scenes::busy, "forecast", RampPermits::forecast, INVALID, LEAST, -1, 182, GREATEST);
        sentence("Promise 25", "ILLEGAL_STATE if day is before today");
        refusedOf(Scenes::busy, "forecast on day 2", RampPermits::forecast, ILLEGAL, 0, 1);
        is("forecast(2) on day 2", Scenes.busy().forecast(2), 2000);
        refusedOf(Scenes::lastDay, "forecast on day 181", RampPermits::forecast, ILLEGAL, 0, 180);
        is("forecast(181) on day 181", Scenes.lastDay().forecast(181), 2000);
    }

    // ---- closure

    private void closureDays() {
        sentence("Promise 26", "Finds the first day from today on, on which a ramp is closed");
        RampPermits x = new RampPermits();
        x.addRamp(1700, 1, 1);
        x.setRate(0, -1);
        x.setRate(1, 1);
        is("closed today", x.closure(0, 300), 1);
        x.setLevel(1999);
        is("closed for 300 today", x.closure(0, 300), 0);
        is("closed for 299 tomorrow", x.closure(0, 299), 1);
        is("closed for 293 on day 7 only", x.closure(0, 293), 7);
        is("never closed for 292", x.closure(0, 292), NONE);
        Calls.passDays(x, 8);
        is("closed before today, not on it", x.closure(0, 299), NONE);
        is("closed on day 8", x.closure(0, 300), 8);
        sentence("Promise 26", "NONE if there is none up to day 181");
        RampPermits y = new RampPermits();
        y.addRamp(1700, 1, 1);
        y.setRate(25, -1);
        is("closed on the last day", y.closure(0, 295), 181);
        is("closed on the day before", y.closure(0, 296), 180);
        is("just open on the last day", y.closure(0, 294), NONE);
        Calls.passDays(y, 181);
        is("open on day 181", y.closure(0, 300), NONE);
        y.setLevel(1999);
        is("closed on day 181", y.closure(0, 300), 181);
    }

    private void closureArguments() {
        sentence("Promise 26", "`ramp`: a ramp");
        range(Scenes::oneRamp, "closure of the only ramp", 0, 0, (x, ramp) -> x.closure(ramp, 0), NONE, NONE);
        range(Scenes::fourRamps, "closure of ramp", 0, 3, (x, ramp) -> x.closure(ramp, 0), NONE, NONE);
        refusedOf(Scenes::fresh, "closure without ramps", (x, ramp) -> x.closure(ramp, 0), INVALID, -1, 0);
        sentence("Promise 26", "`draught`: 0 to 300");
        range(Scenes::busy, "closure for a draught", 0, 300, (x, draught) -> x.closure(1, draught), NONE, 3);
        sentence("Promise 26", "Returns the day");
        is("the first day", Probe.after(Scenes::oneRamp, x -> x.setLevel(0)).get().closure(0, 0), 0);
        is("the last day", Probe.after(Scenes::lastDay, x -> x.setLevel(0)).get().closure(0, 0), 181);
        sentence("Promise 26", "INVALID_ARGUMENT if an argument is out of range");
        refusedOf(Scenes::busy, "closure of ramp", (x, ramp) -> x.closure(ramp, 0), INVALID, LEAST, -1, 3, GREATEST);
        refusedOf(Scenes::busy, "closure for", (x, draught) -> x.closure(0, draught), INVALID, LEAST, -1, 301,
            GREATEST);
        refusedOf(Scenes::busy, "closure of both", (x, both) -> x.closure(both, both), INVALID, -1, 301);
    }

    // ---- draughtFor

    private void draughtFor() {
        sentence("Promise 27", "`ramp`: a ramp");
        range(Scenes::oneRamp, "draughtFor of the only ramp", 0, 0, (x, ramp) -> x.draughtFor(ramp, 0, 0), 300, 300);
        range(Scenes::fourRamps, "draughtFor of ramp", 0, 3, (x, ramp) -> x.draughtFor(ramp, 0, 0), 300, 300);
        refusedOf(Scenes::fresh, "draughtFor without ramps", (x, ramp) -> x.draughtFor(ramp, 0, 0), INVALID, -1, 0);
        sentence("Promise 27", "`first`: 0 to 181");
        range(Scenes::oneRamp, "draughtFor from", 0, 181, (x, first) -> x.draughtFor(0, first, 181), 300, 300);
        sentence("Promise 27", "`last`: first to 181");
        range(Scenes::oneRamp, "draughtFor from 0 to", 0, 181, (x, last) -> x.draughtFor(0, 0, last), 300, 300);
        range(Scenes::oneRamp, "draughtFor from 90 to", 90, 181, (x, last) -> x.draughtFor(0, 90, last), 300, 300);
        range(Scenes::oneRamp, "draughtFor from 181 to", 181, 181, (x, last) -> x.draughtFor(0, 181, last), 300, 300);
    }

    private void draughtForDays() {
        sentence("Promise 27", "open at the forecast levels of all days from one to another");
        RampPermits x = new RampPermits();
        x.addRamp(1700, 1, 1);
        x.setLevel(1750);
        x.setRate(0, -5);
        x.setRate(1, 5);
        int[][] days = {{0, 0, 50}, {0, 1, 45}, {1, 1, 45}, {0, 6, 20}, {0, 7, 15}, {7, 7, 15}, {7, 8, 15},
            {8, 8, 20}, {8, 181, 20}, {14, 181, 50}, {0, 181, 15}, {181, 181, 50}};
        for (int[] d : days) {
            is("draughtFor(0, " + d[0] + ", " + d[1] + ")", x.draughtFor(0, d[0], d[1]), d[2]);
        }
        sentence("Promise 27", "Returns the draught, at most 300");
        int[][] levels = {{1700, 0}, {1701, 1}, {1999, 299}, {2000, 300}, {2001, 300}, {5000, 300}};
        for (int[] c : levels) {
            RampPermits y = Scenes.oneRamp();
            y.setLevel(c[0]);
            is("draughtFor at " + c[0], y.draughtFor(0, 0, 181), c[1]);
        }
        sentence("Promise 27", "NONE if it is closed for all on one of these days");
        x.setLevel(1734);
        is("closed on day 7 only", x.draughtFor(0, 0, 181), NONE);
        is("up to the day before", x.draughtFor(0, 0, 6), 4);
        is("up to this day", x.draughtFor(0, 0, 7), NONE);
        is("this day", x.draughtFor(0, 7, 7), NONE);
        is("from this day on", x.draughtFor(0, 7, 181), NONE);
        is("from the next day on", x.draughtFor(0, 8, 181), 4);
        x.setLevel(1735);
        is("just open on day 7", x.draughtFor(0, 0, 181), 0);
    }

    private void draughtForRefused() {
        sentence("Promise 27", "INVALID_ARGUMENT if an argument is out of range");
        refusedOf(Scenes::busy, "draughtFor of ramp", (x, ramp) -> x.draughtFor(ramp, 2, 2), INVALID, LEAST, 3,
            GREATEST);
        refusedOf(Scenes::busy, "draughtFor from", (x, first) -> x.draughtFor(0, first, 2), INVALID, LEAST, -1,
            3, GREATEST);
        refusedOf(Scenes::busy, "draughtFor to", (x, last) -> x.draughtFor(0, 2, last), INVALID, LEAST, 1, 182,
            GREATEST);
        refusedOf(Scenes::busy, "draughtFor of all", (x, all) -> x.draughtFor(all, all, all), INVALID, -1, 182);
        sentence("Promise 27", "ILLEGAL_STATE if first is before today");
        refusedOf(Scenes::busy, "draughtFor on day 2 from", (x, first) -> x.draughtFor(0, first, 181), ILLEGAL, 0, 1);
        is("draughtFor on day 2 from day 2", Scenes.busy().draughtFor(0, 2, 2), 200);
        is("draughtFor on day 181 from day 180", Scenes.lastDay().draughtFor(0, 180, 181), ILLEGAL);
        is("draughtFor on day 181 from day 181", Scenes.lastDay().draughtFor(0, 181, 181), 300);
    }

    // ---- bestRamp

    private void bestRampArguments() {
        sentence("Promise 28", "`first`: 0 to 181, the first day");
        range(Scenes::oneRamp, "bestRamp for the one day", 0, 181, (x, day) -> x.bestRamp(day, day, 0), 0, 0);
        sentence("Promise 28", "`last`: first to 181, the last day, at most 29 days later");
        range(Scenes::oneRamp, "bestRamp from 0 to", 0, 29, (x, last) -> x.bestRamp(0, last, 0), 0, 0);
        range(Scenes::oneRamp, "bestRamp from 10 to", 10, 39, (x, last) -> x.bestRamp(10, last, 0), 0, 0);
        range(Scenes::oneRamp, "bestRamp from 151 to", 151, 180, (x, last) -> x.bestRamp(151, last, 0), 0, 0);
        range(Scenes::oneRamp, "bestRamp from 152 to", 152, 181, (x, last) -> x.bestRamp(152, last, 0), 0, 0);
        range(Scenes::oneRamp, "bestRamp from 181 to", 181, 181, (x, last) -> x.bestRamp(181, last, 0), 0, 0);
        sentence("Promise 28", "`draught`: 0 to 300");
        range(Scenes::oneRamp, "bestRamp for a draught", 0, 300, (x, draught) -> x.bestRamp(0, 0, draught), 0, 0);
    }

    private void bestRampChoice() {
        sentence("Promise 28", "(also if there are 12 permits), of several the one with the smallest number");
        RampPermits x = Scenes.fourRamps();
        is("all for the same fee", x.bestRamp(0, 0, 0), 0);
        x.setFee(3, 9);
        is("the last for 1 less", x.bestRamp(0, 0, 0), 3);
        x.setFee(1, 9);
        is("two for 1 less", x.bestRamp(0, 0, 0), 1);
        x.setFee(0, 1);
        is("the first for the least fee", x.bestRamp(0, 0, 0), 0);
        for (int ramp = 0; ramp <= 3; ramp++) {
            x.setFee(ramp, 500);
        }
        is("all for the greatest fee", x.bestRamp(0, 0, 0), 0);
        is("with 12 permits", Scenes.twelvePermits().bestRamp(0, 0, 0), 0);
        is("with 12 permits, and boats left", Scenes.twelvePermits().bestRamp(3, 4, 0), 0);
    }

    private void bestRampFits() {
        sentence("Promise 28", "the smallest fee on which a new permit would fit");
        RampPermits x = new RampPermits();
        x.addRamp(1800, 1, 1);
        x.addRamp(1700, 1, 2);
        is("as deep as the first one", x.bestRamp(0, 0, 200), 0);
        is("deeper by 1", x.bestRamp(0, 0, 201), 1);
        x.buy(0, 3, 4, 0);
        is("up to the day before its boat is taken", x.bestRamp(0, 2, 0), 0);
        is("up to the day on which it is", x.bestRamp(0, 3, 0), 1);
        is("from the last day on which it is", x.bestRamp(4, 5, 0), 1);
        is("from the next day on", x.bestRamp(5, 6, 0), 0);
        x.buy(1, 4, 4, 0);
        sentence("Promise 28", "NONE if there is none");
        is("both are taken on day 4", x.bestRamp(4, 4, 0), NONE);
        is("one is taken on day 3", x.bestRamp(3, 3, 0), 1);
        is("around day 4", x.bestRamp(0, 29, 0), NONE);
        x.setLevel(1699);
        is("both are closed", x.bestRamp(0, 0, 0), NONE);
        is("no ramp at all", new RampPermits().bestRamp(0, 0, 0), NONE);
        is("no ramp at all on the last day", new RampPermits().bestRamp(181, 181, 300), NONE);
    }

    private void bestRampRefused() {
        sentence("Promise 28", "Returns the ramp");
        is("the first ramp", Scenes.oneRamp().bestRamp(0, 29, 300), 0);
        is("the last ramp", Probe.after(Scenes::fourRamps, x -> x.setFee(3, 1)).get().bestRamp(0, 29, 300), 3);
        sentence("Promise 28", "INVALID_ARGUMENT if an argument is out of range");
        refusedOf(Scenes::busy, "bestRamp from", (x, first) -> x.bestRamp(first, 2, 0), INVALID, LEAST, -1, 3,
            GREATEST);
        refusedOf(Scenes::busy, "bestRamp to", (x, last) -> x.bestRamp(2, last, 0), INVALID, LEAST, 1, 32, GREATEST);
        refusedOf(Scenes::busy, "bestRamp for", (x, draught) -> x.bestRamp(2, 2, draught), INVALID, LEAST, -1,
            301, GREATEST);
        refused(Scenes::busy, "bestRamp from the least to the greatest", x -> x.bestRamp(LEAST, GREATEST, 0), INVALID);
        refused(Scenes::busy, "bestRamp from the greatest to the least", x -> x.bestRamp(GREATEST, LEAST, 0), INVALID);
        sentence("Promise 28", "ILLEGAL_STATE if first is before today");
        refusedOf(Scenes::busy, "bestRamp on day 2 from", (x, first) -> x.bestRamp(first, 3, 0), ILLEGAL, 0, 1);
        is("bestRamp on day 2 from day 2", Scenes.busy().bestRamp(2, 2, 0), 1);
        is("bestRamp on day 181 from day 180", Scenes.lastDay().bestRamp(180, 181, 0), ILLEGAL);
        is("bestRamp on day 181 from day 181", Scenes.lastDay().bestRamp(181, 181, 0), 0);
    }

    // ---- expected

    private void expectedDays() {
        sentence("Promise 29", "if all its days to come passed with the forecast levels");
        int[][] cases = {{1800, 0, 0, 0}, {1799, 0, 3, 30}, {1801, -1, 1, 10}, {1802, -1, 0, 0},
            {1799, 1, 1, 10}, {1798, 1, 2, 20}, {0, 50, 3, 30}, {5000, -50, 0, 0}};
        for (int[] c : cases) {
            RampPermits x = Scenes.onePermit();
            x.setLevel(c[0]);
            x.setRate(0, c[1]);
            is("days lost from " + c[0] + " at a rate of " + c[1], x.expected(0, 0), c[2]);
            is("owed from " + c[0] + " at a rate of " + c[1], x.expected(0, 1), c[3]);
        }
        RampPermits later = Scenes.oneRamp();
        later.buy(0, 2, 4, 0);
        later.setLevel(1699);
        is("days lost of a later permit that are all closed", later.expected(0, 0), 3);
        later.setRate(0, 1);
        is("days lost when it opens before its first day", later.expected(0, 0), 0);
        later.setLevel(1703);
        later.setRate(0, -1);
        is("days lost when it closes on its last day", later.expected(0, 0), 1);
        later.setLevel(1704);
        is("days lost when it closes on the day behind it", later.expected(0, 0), 0);
        later.setFee(0, 500);
        later.setLevel(1703);
        is("owed at its own fee", later.expected(0, 1), 10);
        sentence("Promise 29", "0 for the days that would be lost of its days to come, 1 for what would be owed then");
        int[] lost = {3, 2, 1, 0, 0};
        for (int today = 0; today < lost.length; today++) {
            RampPermits x = Scenes.onDay(today);
            x.setLevel(0);
            is("days lost on day " + today, x.expected(0, 0), lost[today]);
            is("owed on day " + today, x.expected(0, 1), lost[today] * 10);
        }
        RampPermits owed = Scenes.onePermitOwed();
        is("days lost of what is open", owed.expected(0, 0), 0);
        is("owed, with what is owed now", owed.expected(0, 1), 10);
        owed.setLevel(1799);
        is("owed, with what is owed now, closed", owed.expected(0, 1), 30);
        owed.refund(0);
        is("owed, without what is refunded", owed.expected(0, 1), 20);
        owed.cancel(0);
        is("days lost of a cancelled one", owed.expected(0, 0), 0);
        is("owed for a cancelled one", owed.expected(0, 1), 20);
    }

    private void expectedArguments() {
        sentence("Promise 29", "Returns the number");
        RampPermits most = new RampPermits();
        most.addRamp(1700, 1, 500);
        most.buy(0, 152, 181, 0);
        most.setRate(0, -50);
        is("the most days", most.expected(0, 0), 30);
        is("the most that would be owed", most.expected(0, 1), 15000);
        sentence("Promise 29", "`permit`: a permit");
        range(Scenes::onePermit, "expected of the only permit", 0, 0, (x, permit) -> x.expected(permit, 0), 0, 0);
        range(Scenes::twelvePermitsOwed, "expected of permit", 0, 11, (x, permit) -> x.expected(permit, 1), 20, 20);
        refusedOf(Scenes::fourRamps, "expected without permits", (x, permit) -> x.expected(permit, 0), INVALID, -1, 0);
        sentence("Promise 29", "INVALID_ARGUMENT if there is no such permit or what is out of range");
        refusedOf(Scenes::busy, "expected of", (x, permit) -> x.expected(permit, 1), INVALID, LEAST, -1, 5, 12,
            GREATEST);
        refusedOf(Scenes::busy, "expected of 0", (x, what) -> x.expected(0, what), INVALID, LEAST, -1, 2, GREATEST);
        refusedOf(Scenes::busy, "expected of both", (x, both) -> x.expected(both, both), INVALID, -1, 5);
    }

    // ---- part and volume

    private void part() {
        sentence("Promise 30", "`permit`: a permit");
        range(() -> Scenes.onDay(1), "part of the only permit", 0, 0, RampPermits::part, 1000, 1000);
        range(Scenes::twelvePermitsOwed, "part of permit", 0, 11, RampPermits::part, 0, 0);
        sentence("Promise 30", "Returns this number");
        is("none of one day was used", Scenes.onePermitOwed().part(0), 0);
        is("one of one was used", Scenes.onDay(1).part(0), 1000);
        is("all were used", Scenes.onDay(3).part(0), 1000);
        is("all of a cancelled one", Probe.after(() -> Scenes.onDay(1), x -> x.cancel(0)).get().part(0), 1000);
        sentence("Promise 30", "INVALID_ARGUMENT if there is no such permit");
        refusedOf(Scenes::busy, "part", RampPermits::part, INVALID, LEAST, -1, 5, 12, GREATEST);
        refusedOf(Scenes::fourRamps, "part without permits", RampPermits::part, INVALID, -1, 0);
        sentence("Promise 30", "NONE if no day of it has passed");
        is("on its first day", Scenes.onePermit().part(0), NONE);
        RampPermits x = Scenes.oneRamp();
        x.buy(0, 1, 1, 0);
        x.pass(0);
        is("on its first day, behind another one", x.part(0), NONE);
        x.cancel(0);
        x.pass(0);
        is("cancelled before a day has passed", x.part(0), NONE);
    }

    private void partCut() {
        sentence("Promise 30", "in float arithmetic, then cut to a whole number");
        for (int used = 0; used <= 30; used++) {
            RampPermits x = Scenes.oneRamp();
            x.buy(0, 0, 29, 0);
            Calls.passDays(x, used);
            is("all of " + used + " days", x.part(0), used == 0 ? NONE : 1000);
            x.setLevel(0);
            Calls.passDays(x, 30 - used);
            is(used + " of 30 days", x.part(0), used * 1000 / 30);
        }
        RampPermits x = Scenes.onePermit();
        x.pass(-300);
        x.pass(300);
        is("1 of 2 days", x.part(0), 500);
        x.pass(0);
        is("2 of 3 days, which is 666.67", x.part(0), 666);
    }

    private void volume() {
        sentence("Promise 31", "`level`: 0 to 5000");
        range(Scenes::busy, "volume", 0, 5000, RampPermits::volume, 0, 18812500);
        sentence("Promise 31", "in double arithmetic, then cut to a whole number");
        int[][] cases = {{1, 13}, {2, 28}, {3, 44}, {4, 62}, {5, 81}, {2000, 3025000}, {4998, 18797478},
            {4999, 18804988}};
        for (int[] c : cases) {
            is("volume(" + c[0] + ")", new RampPermits().volume(c[0]), c[1]);
        }
        sentence("Promise 31", "Returns this number");
        for (int level = 0; level <= 5000; level++) {
            RampPermits x = new RampPermits();
            is("volume(" + level + ")", x.volume(level), (3 * level * level + 50 * level) / 4);
        }
        sentence("Promise 31", "INVALID_ARGUMENT if level is out of range");
        refusedOf(Scenes::busy, "volume", RampPermits::volume, INVALID, LEAST, -1, 5001, 65536, GREATEST);
    }
}
