/** Boundary cases of the sections What it is, Terms, Level and Ramps, and of the promises 1 to 6. */
final class LevelBoundaries extends Boundaries {
    LevelBoundaries(Due due, Claims claims) {
        super(due, claims);
    }

    @Override
    void testAll() {
        callsOfAnObject();
        days();
        firstDay();
        level();
        rates();
        weeks();
        forecastOfToday();
        forecastOfLaterDays();
        forecastBoundedOnEachDay();
        atMostFourRamps();
        rampValues();
        openAtALevel();
        draughts();
        newObject();
        setLevel();
        setRate();
        addRamp();
        setFee();
        setFine();
    }

    // ---- What it is

    private void callsOfAnObject() {
        sentence("What it is", "at most 512 calls");
        RampPermits x = new RampPermits();
        for (int call = 1; call <= 511; call++) {
            x.setLevel(call);
        }
        is("the 512th call", x.setLevel(0), 511);
    }

    // ---- Terms

    private void days() {
        sentence("Terms", "Days are numbered from 0 to 181");
        range(Scenes::oneRamp, "forecast", 0, 181, RampPermits::forecast, 2000, 2000);
        range(Scenes::oneRamp, "a permit for the one day", 0, 181, (x, day) -> x.buy(0, day, day, 0), 0, 0);
        is("the last today", Scenes.lastDay().count(0), 181);
        is("today after another pass", Probe.after(Scenes::lastDay, x -> x.pass(0)).get().count(0), 181);
    }

    private void firstDay() {
        sentence("Terms", "at first day 0 is today");
        is("today", new RampPermits().count(0), 0);
        is("forecast(0)", new RampPermits().forecast(0), 2000);
        is("a permit for day 0", Scenes.oneRamp().buy(0, 0, 0, 0), 0);
        is("take", new RampPermits().take(0), 0);
    }

    // ---- Level

    private void level() {
        sentence("Level", "The level is 0 to 5000 (at first 2000)");
        is("the level at first", new RampPermits().count(1), 2000);
        range(Scenes::fresh, "setLevel", 0, 5000, RampPermits::setLevel, 2000, 2000);
        RampPermits x = new RampPermits();
        x.setLevel(0);
        is("the least level", x.count(1), 0);
        x.pass(-1);
        is("less than the least", x.count(1), 0);
        x.setLevel(5000);
        is("the greatest level", x.count(1), 5000);
        x.pass(1);
        is("more than the greatest", x.count(1), 5000);
    }

    private void rates() {
        sentence("Level", "Each of 26 weeks has a rate of -50 to 50 (at first 0)");
        RampPermits x = new RampPermits();
        for (int week = 0; week <= 25; week++) {
            is("the rate of week " + week + " at first", x.rate(week), 0);
        }
        for (int week = 0; week <= 25; week++) {
            is("setRate(" + week + ", -50)", x.setRate(week, -50), 0);
            is("setRate(" + week + ", 50)", x.setRate(week, 50), -50);
            is("rate(" + week + ")", x.rate(week), 50);
        }
        refusedOf(Scenes::busy, "setRate of week 0", (y, rate) -> y.setRate(0, rate), INVALID, -51, 51);
        refusedOf(Scenes::busy, "setRate for week", (y, week) -> y.setRate(week, 0), INVALID, -1, 26);
        refusedOf(Scenes::busy, "rate", RampPermits::rate, INVALID, -1, 26);
    }

    private void weeks() {
        sentence("Level", "day d belongs to week d divided by 7, rounded down");
        for (int week = 0; week <= 25; week++) {
            RampPermits x = new RampPermits();
            x.setRate(week, 1);
            int first = week * 7;
            is("forecast of the first day of week " + week, x.forecast(first), 2000);
            is("forecast of its second day", x.forecast(first + 1), 2001);
            is("forecast of its last day", x.forecast(first + 6), 2006);
            if (week < 25) {
                is("forecast of the first day behind it", x.forecast(first + 7), 2007);
                is("forecast of the second day behind it", x.forecast(first + 8), 2007);
            }
            is("forecast of the last day of all", x.forecast(181), week < 25 ? 2007 : 2006);
        }
        for (int today = 5; today <= 8; today++) {
            RampPermits x = Scenes.onDay(today);
            x.setRate(1, 1);
            is("forecast of tomorrow on day " + today, x.forecast(today + 1), today < 7 ? 2000 : 2001);
        }
    }

    private void forecastOfToday() {
        sentence("Level", "The forecast level of today is the level");
        int[][] cases = {{0, 50}, {0, -50}, {5000, -50}, {5000, 50}, {1, -50}, {4999, 50}};
        for (int[] c : cases) {
            RampPermits x = new RampPermits();
            x.setLevel(c[0]);
            x.setRate(0, c[1]);
            is("forecast(0) at " + c[0] + " with a rate of " + c[1], x.forecast(0), c[0]);
        }
        for (int today : new int[] {1, 6, 7, 180, 181}) {
            RampPermits x = Scenes.onDay(today);
            x.setRate(today / 7, -50);
            x.setRate((today - 1) / 7, -50);
            is("forecast(" + today + ") on that day", x.forecast(today), 2000);
        }
    }

    private void forecastOfLaterDays() {
        sentence("Level", "the rate of the week to which the day before belongs");
        RampPermits x = new RampPermits();
        x.setRate(0, -3);
        x.setRate(1, 50);
        x.setRate(25, -50);
        int[][] want = {{1, 1997}, {6, 1982}, {7, 1979}, {8, 2029}, {14, 2329}, {15, 2329}, {175, 2329},
            {176, 2279}, {180, 2079}, {181, 2029}};
        for (int[] w : want) {
            is("forecast(" + w[0] + ")", x.forecast(w[0]), w[1]);
        }
        Calls.passDays(x, 180);
        is("forecast(181) on day 180", x.forecast(181), 1950);
    }

    private void forecastBoundedOnEachDay() {
        sentence("Level", "at least 0 and at most 5000 on each day");
        int[][] low = {{51, 1}, {50, 0}, {49, 0}, {1, 0}, {0, 0}};
        int[][] high = {{4949, 4999}, {4950, 5000}, {4951, 5000}, {4999, 5000}, {5000, 5000}};
        for (int i = 0; i < low.length; i++) {
            RampPermits x = new RampPermits();
            x.setRate(0, -50);
            x.setLevel(low[i][0]);
            is("forecast(1) from " + low[i][0], x.forecast(1), low[i][1]);
            x.setRate(0, 50);
            x.setLevel(high[i][0]);
            is("forecast(1) from " + high[i][0], x.forecast(1), high[i][1]);
        }
        RampPermits x = new RampPermits();
        x.setLevel(20);
        x.setRate(0, -10);
        x.setRate(1, 10);
        is("forecast(7) that stood still at 0", x.forecast(7), 0);
        is("forecast(8), which rises from 0", x.forecast(8), 10);
        x.setLevel(4990);
        x.setRate(0, 10);
        x.setRate(1, -10);
        is("forecast(7) that stood still at 5000", x.forecast(7), 5000);
        is("forecast(8), which falls from 5000", x.forecast(8), 4990);
    }

    // ---- Ramps

    private void atMostFourRamps() {
        sentence("Ramps", "There are at most 4 ramps, numbered from 0");
        RampPermits x = new RampPermits();
        for (int ramp = 0; ramp <= 3; ramp++) {
            is("ramp " + ramp + " before it is added", x.ramp(ramp, 0), INVALID);
            is("a ramp's number", x.addRamp(100 + ramp, 1, 1), ramp);
            is("end of ramp " + ramp, x.ramp(ramp, 0), 100 + ramp);
        }
        refused(Scenes::fourRamps, "a fifth ramp", y -> y.addRamp(0, 1, 1), FULL);
        is("ramp(4, 0)", x.ramp(4, 0), INVALID);
        x.undo();
        is("a fourth ramp in place of the undone one", x.addRamp(200, 1, 1), 3);
        is("end of the first ramp", x.ramp(0, 0), 100);
    }

    private void rampValues() {
        sentence("Ramps", "A ramp has an end (0 to 4000), a number of boats (1 to 20) and a fee for a day (1 to 500)");
        RampPermits x = new RampPermits();
        x.addRamp(0, 1, 1);
        x.addRamp(4000, 20, 500);
        int[][] want = {{0, 1, 1}, {4000, 20, 500}};
        for (int ramp = 0; ramp < 2; ramp++) {
            for (int what = 0; what < 3; what++) {
                is("ramp(" + ramp + ", " + what + ")", x.ramp(ramp, what), want[ramp][what]);
            }
        }
        refusedOf(Scenes::busy, "addRamp with an end", (y, end) -> y.addRamp(end, 1, 1), INVALID, -1, 4001);
        refusedOf(Scenes::busy, "addRamp with boats", (y, boats) -> y.addRamp(0, boats, 1), INVALID, 0, 21);
        refusedOf(Scenes::busy, "addRamp with a fee", (y, fee) -> y.addRamp(0, 1, fee), INVALID, 0, 501);
    }

    private void openAtALevel() {
        sentence("Ramps", "open for a draught if the level less its end is at least the draught");
        int[][] open = {{0, 0, 0}, {300, 0, 300}, {4000, 4000, 0}, {5000, 4000, 300}, {2000, 2000, 0},
            {2000, 1999, 1}, {2000, 1700, 300}, {2001, 1700, 300}};
        int[][] closed = {{0, 0, 1}, {299, 0, 300}, {3999, 4000, 0}, {4299, 4000, 300}, {1999, 2000, 0},
            {2000, 2000, 1}, {1999, 1700, 300}, {0, 4000, 0}, {0, 4000, 300}};
        for (int[] c : open) {
            openOrClosed(c[0], c[1], c[2], true);
        }
        for (int[] c : closed) {
            openOrClosed(c[0], c[1], c[2], false);
        }
    }

    private void openOrClosed(int level, int end, int draught, boolean open) {
        RampPermits x = new RampPermits();
        x.addRamp(end, 1, 1);
        x.setLevel(level);
        String name = " at " + level + " with an end of " + end + " and a draught of " + draught;
        is("launch" + name, x.launch(0, draught, -1), open ? 60 : 40);
        is("closure" + name, x.closure(0, draught), open ? NONE : 0);
        is("buy" + name, x.buy(0, 0, 0, draught), open ? 0 : ILLEGAL);
    }

    private void draughts() {
        sentence("Ramps", "Draughts are 0 to 300");
        range(Scenes::onePermit, "buy for a draught", 0, 300, (x, draught) -> x.buy(1, 0, 0, draught), 1, 1);
        range(Scenes::onePermit, "launch with a draught", 0, 300, (x, draught) -> x.launch(0, draught, 0), 0, 20);
        range(Scenes::onePermit, "closure for a draught", 0, 300, (x, draught) -> x.closure(0, draught), NONE, NONE);
        range(Scenes::onePermit, "bestRamp for a draught", 0, 300, (x, draught) -> x.bestRamp(0, 0, draught), 0, 0);
    }

    // ---- the promises

    private void newObject() {
        sentence("Promise 1", "without ramps and permits, with an empty text");
        RampPermits x = new RampPermits();
        is("ramps", x.count(2), 0);
        is("permits", x.count(3), 0);
        is("permits with days to come", x.count(4), 0);
        is("length of the text", x.count(7), 0);
        is("ramp(0, 0)", x.ramp(0, 0), INVALID);
        is("permit(0, 0)", x.permit(0, 0), INVALID);
        is("part(0)", x.part(0), INVALID);
        is("bestRamp(0, 0, 0)", x.bestRamp(0, 0, 0), NONE);
        is("run()", x.run(), 0);
        is("clearText()", x.clearText(), 0);
    }

    private void setLevel() {
        sentence("Promise 2", "`level`: 0 to 5000");
        range(Scenes::busy, "setLevel", 0, 5000, RampPermits::setLevel, 2000, 2000);
        sentence("Promise 2", "This is an action");
        recorded(Scenes::busy, "setLevel(5000)", x -> x.setLevel(5000));
        recorded(Scenes::busy, "setLevel(2000) at 2000", x -> x.setLevel(2000));
        sentence("Promise 2", "Returns the previous level");
        RampPermits x = new RampPermits();
        is("the first setLevel", x.setLevel(0), 2000);
        is("setLevel after 0", x.setLevel(5000), 0);
        is("setLevel after 5000", x.setLevel(5000), 5000);
        x.pass(-500);
        is("setLevel after a pass", x.setLevel(1), 4500);
        sentence("Promise 2", "INVALID_ARGUMENT if level is out of range");
        refusedOf(Scenes::busy, "setLevel", RampPermits::setLevel, INVALID, LEAST, -1, 5001, GREATEST);
    }

    private void setRate() {
        sentence("Promise 3", "`week`: 0 to 25");
        range(Scenes::busy, "setRate for week", 0, 25, (x, week) -> x.setRate(week, 1), -7, 9);
        sentence("Promise 3", "`rate`: -50 to 50");
        range(Scenes::busy, "setRate to", -50, 50, (x, rate) -> x.setRate(25, rate), 9, 9);
        sentence("Promise 3", "This is an action");
        recorded(Scenes::busy, "setRate(25, -50)", x -> x.setRate(25, -50));
        recorded(Scenes::busy, "setRate(25, 9) at 9", x -> x.setRate(25, 9));
        sentence("Promise 3", "Returns the previous rate");
        RampPermits x = new RampPermits();
        is("the first setRate", x.setRate(25, -50), 0);
        is("setRate after -50", x.setRate(25, 50), -50);
        is("setRate after 50", x.setRate(25, 50), 50);
        is("setRate for the week before", x.setRate(24, 1), 0);
        sentence("Promise 3", "INVALID_ARGUMENT if an argument is out of range");
        refusedOf(Scenes::busy, "setRate for week", (y, week) -> y.setRate(week, 0), INVALID, LEAST, GREATEST);
        refusedOf(Scenes::busy, "setRate to", (y, rate) -> y.setRate(0, rate), INVALID, LEAST, GREATEST);
        refusedOf(Scenes::busy, "setRate for week and to", (y, all) -> y.setRate(all, all), INVALID, -51, 51);
    }

    private void addRamp() {
        sentence("Promise 4", "`end`: 0 to 4000");
        range(Scenes::busy, "addRamp with an end", 0, 4000, (x, end) -> x.addRamp(end, 1, 1), 3, 3);
        sentence("Promise 4", "`boats`: 1 to 20");
        range(Scenes::busy, "addRamp with boats", 1, 20, (x, boats) -> x.addRamp(0, boats, 1), 3, 3);
        sentence("Promise 4", "`fee`: 1 to 500");
        range(Scenes::busy, "addRamp with a fee", 1, 500, (x, fee) -> x.addRamp(0, 1, fee), 3, 3);
        sentence("Promise 4", "This is an action");
        recorded(Scenes::busy, "addRamp(4000, 20, 500)", x -> x.addRamp(4000, 20, 500));
        sentence("Promise 4", "Returns its number");
        RampPermits x = new RampPermits();
        is("the first ramp", x.addRamp(4000, 20, 500), 0);
        is("the second ramp", x.addRamp(4000, 20, 500), 1);
        is("the third ramp", x.addRamp(0, 1, 1), 2);
        is("the fourth ramp", x.addRamp(0, 1, 1), 3);
        sentence("Promise 4", "INVALID_ARGUMENT if an argument is out of range");
        refusedOf(Scenes::busy, "addRamp with an end", (y, end) -> y.addRamp(end, 1, 1), INVALID, LEAST, GREATEST);
        refusedOf(Scenes::busy, "addRamp with boats", (y, boats) -> y.addRamp(0, boats, 1), INVALID, LEAST, GREATEST);
        refusedOf(Scenes::busy, "addRamp with a fee", (y, fee) -> y.addRamp(0, 1, fee), INVALID, LEAST, GREATEST);
        refusedOf(Scenes::fourRamps, "addRamp with all", (y, all) -> y.addRamp(all, all, all), INVALID, -1, 4001);
        sentence("Promise 4", "CAPACITY_EXCEEDED if there are 4");
        refused(Scenes::fourRamps, "addRamp(0, 1, 1)", y -> y.addRamp(0, 1, 1), FULL);
        refused(Scenes::fourRamps, "addRamp(4000, 20, 500)", y -> y.addRamp(4000, 20, 500), FULL);
    }

    private void setFee() {
        sentence("Promise 5", "`ramp`: a ramp");
        range(Scenes::oneRamp, "setFee of the only ramp", 0, 0, (x, ramp) -> x.setFee(ramp, 1), 10, 10);
        range(Scenes::fourRamps, "setFee of ramp", 0, 3, (x, ramp) -> x.setFee(ramp, 1), 10, 10);
        refusedOf(Scenes::fresh, "setFee without ramps", (x, ramp) -> x.setFee(ramp, 1), INVALID, -1, 0);
        sentence("Promise 5", "`fee`: 1 to 500");
        range(Scenes::busy, "setFee to", 1, 500, (x, fee) -> x.setFee(2, fee), 41, 41);
        sentence("Promise 5", "This is an action");
        recorded(Scenes::busy, "setFee(1, 500)", x -> x.setFee(1, 500));
        recorded(Scenes::busy, "setFee(2, 41) at 41", x -> x.setFee(2, 41));
        sentence("Promise 5", "Returns the previous fee");
        RampPermits x = Scenes.fourRamps();
        is("the first setFee", x.setFee(3, 1), 10);
        is("setFee after 1", x.setFee(3, 500), 1);
        is("setFee after 500", x.setFee(3, 500), 500);
        is("setFee of the ramp before", x.setFee(2, 500), 10);
        sentence("Promise 5", "INVALID_ARGUMENT if an argument is out of range");
        refusedOf(Scenes::busy, "setFee of ramp", (y, ramp) -> y.setFee(ramp, 1), INVALID, LEAST, 4, GREATEST);
        refusedOf(Scenes::busy, "setFee to", (y, fee) -> y.setFee(0, fee), INVALID, LEAST, -1, GREATEST);
        refusedOf(Scenes::busy, "setFee of ramp and to", (y, all) -> y.setFee(all, all), INVALID, -1, 501);
    }

    private void setFine() {
        sentence("Promise 6", "`reason`: 1 to 3");
        range(Scenes::busy, "setFine for reason", 1, 3, (x, reason) -> x.setFine(reason, 1), 40, 77);
        sentence("Promise 6", "`amount`: 0 to 500");
        range(Scenes::busy, "setFine to", 0, 500, (x, amount) -> x.setFine(2, amount), 60, 60);
        sentence("Promise 6", "This is an action");
        recorded(Scenes::busy, "setFine(1, 500)", x -> x.setFine(1, 500));
        recorded(Scenes::busy, "setFine(3, 77) at 77", x -> x.setFine(3, 77));
        sentence("Promise 6", "Returns the previous amount");
        int[] first = {40, 60, 20};
        for (int reason = 1; reason <= 3; reason++) {
            RampPermits x = new RampPermits();
            is("the first setFine for " + reason, x.setFine(reason, 0), first[reason - 1]);
            is("setFine after 0", x.setFine(reason, 500), 0);
            is("setFine after 500", x.setFine(reason, 500), 500);
        }
        sentence("Promise 6", "INVALID_ARGUMENT if an argument is out of range");
        refusedOf(Scenes::busy, "setFine for reason", (y, r) -> y.setFine(r, 1), INVALID, LEAST, -1, GREATEST);
        refusedOf(Scenes::busy, "setFine to", (y, amount) -> y.setFine(1, amount), INVALID, LEAST, GREATEST);
        refusedOf(Scenes::busy, "setFine for reason and to", (y, all) -> y.setFine(all, all), INVALID, -1, 501);
    }
}
