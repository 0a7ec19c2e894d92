/** Objects with some calls behind them; each method makes a new one. */
final class Scenes {
    private Scenes() {
    }

    static RampPermits fresh() {
        return new RampPermits();
    }

    /** A ramp that is open for 300 at first, with 2 boats, for 10 euros. */
    static RampPermits oneRamp() {
        RampPermits x = new RampPermits();
        x.addRamp(1700, 2, 10);
        return x;
    }

    /** Four ramps like that of oneRamp(). */
    static RampPermits fourRamps() {
        RampPermits x = new RampPermits();
        for (int i = 0; i < 4; i++) {
            x.addRamp(1700, 2, 10);
        }
        return x;
    }

    /** Two ramps, and a permit for the first one, for the days 0 to 2 and a draught of 100. */
    static RampPermits onePermit() {
        RampPermits x = oneRamp();
        x.addRamp(1700, 2, 10);
        x.buy(0, 0, 2, 100);
        return x;
    }

    /** Two ramps and twelve permits for the first one, for the days 3 and 4. */
    static RampPermits twelvePermits() {
        RampPermits x = new RampPermits();
        x.addRamp(1700, 20, 10);
        x.addRamp(1700, 20, 10);
        Calls.buyMany(x, 12, 0, 3, 4);
        return x;
    }

    /** As onePermit(), on another day. */
    static RampPermits onDay(int day) {
        RampPermits x = onePermit();
        Calls.passDays(x, day);
        return x;
    }

    static RampPermits lastDay() {
        return onDay(181);
    }

    /** A text that has no room left and does nothing but change rates. */
    static RampPermits fullText() {
        RampPermits x = onePermit();
        Calls.write(x, "rate 3 4;".repeat(15) + "     ");
        return x;
    }

    /** Three ramps, permits that passed, were moved, cancelled and refunded, and all else in use. */
    static RampPermits busy() {
        RampPermits x = new RampPermits();
        x.addRamp(1800, 2, 30);
        x.addRamp(1700, 3, 21);
        x.addRamp(1950, 1, 40);
        x.setRate(0, -7);
        x.setRate(25, 9);
        x.buy(0, 0, 4, 50);
        x.buy(1, 0, 2, 50);
        x.buy(0, 3, 8, 60);
        x.buy(1, 0, 0, 10);
        x.buy(2, 5, 5, 0);
        Calls.run(x, "pass 501;");
        x.take(0);
        x.pass(-160);
        x.pass(160);
        x.take(1);
        x.launch(0, 300, 2);
        x.launch(0, 55, 0);
        x.launch(1, 0, 0);
        x.setFine(3, 77);
        x.setFee(2, 41);
        x.move(2, 1);
        x.cancel(1);
        x.refund(0);
        Calls.write(x, "rate 3 4;");
        return x;
    }

    /** As onePermit() on day 1; the day before was lost. */
    static RampPermits onePermitOwed() {
        RampPermits x = onePermit();
        x.setLevel(0);
        x.pass(0);
        x.setLevel(2000);
        return x;
    }

    /** As twelvePermits() on day 4; the day before was lost for all. */
    static RampPermits twelvePermitsOwed() {
        RampPermits x = twelvePermits();
        Calls.passDays(x, 3);
        x.setLevel(0);
        x.pass(0);
        return x;
    }
}
