/** Promises 25 to 31: forecast, closure, draughtFor, bestRamp, expected, part, volume. */
final class ForecastsTest {
    private static final int INVALID = RampPermits.INVALID_ARGUMENT;
    private static final int ILLEGAL = RampPermits.ILLEGAL_STATE;
    private static final int NONE = RampPermits.NONE;

    private final Due due = new Due("ForecastsTest");

    public static void main(String[] args) {
        ForecastsTest test = new ForecastsTest();
        test.forecast();
        test.forecastBounds();
        test.closure();
        test.draughtFor();
        test.bestRamp();
        test.bestRampBoats();
        test.expected();
        test.part();
        test.volume();
        test.due.finish();
    }

    /** Falls by 10 a day in week 0, rises by 5 a day in week 1, falls by 1 on days 175 to 181. */
    private static RampPermits falling() {
        RampPermits x = new RampPermits();
        x.setRate(0, -10);
        x.setRate(1, 5);
        x.setRate(25, -1);
        return x;
    }

    private void forecast() {
        due.part("promise 25");
        RampPermits x = falling();
        int[][] want = {{0, 2000}, {1, 1990}, {6, 1940}, {7, 1930}, {8, 1935}, {13, 1960}, {14, 1965},
            {175, 1965}, {176, 1964}, {181, 1959}};
        for (int[] w : want) {
            due.is("forecast(" + w[0] + ")", x.forecast(w[0]), w[1]);
        }
        for (int wrong : new int[] {-1, 182, Integer.MIN_VALUE, Integer.MAX_VALUE}) {
            due.is("forecast(" + wrong + ")", x.forecast(wrong), INVALID);
        }
        Calls.passDays(x, 6);
        due.is("forecast(5) before today", x.forecast(5), ILLEGAL);
        due.is("forecast(-1) before today", x.forecast(-1), INVALID);
        due.is("forecast(6) is the level", x.forecast(6), 2000);
        due.is("forecast(7)", x.forecast(7), 1990);
        due.is("forecast(8)", x.forecast(8), 1995);
        Calls.passDays(x, 175);
        due.is("forecast(181) on day 181", x.forecast(181), 2000);
        due.is("forecast(180) on day 181", x.forecast(180), ILLEGAL);
    }

    private void forecastBounds() {
        due.part("promise 25, bounds");
        RampPermits x = new RampPermits();
        x.setRate(0, -50);
        x.setRate(1, 50);
        x.setLevel(120);
        int[][] low = {{2, 20}, {3, 0}, {7, 0}, {8, 50}, {14, 350}};
        for (int[] w : low) {
            due.is("forecast(" + w[0] + ")", x.forecast(w[0]), w[1]);
        }
        x.setLevel(5000);
        x.setRate(0, 50);
        x.setRate(1, -50);
        int[][] high = {{1, 5000}, {7, 5000}, {8, 4950}, {14, 4650}};
        for (int[] w : high) {
            due.is("forecast(" + w[0] + ")", x.forecast(w[0]), w[1]);
        }
    }

    private void closure() {
        due.part("promise 26");
        RampPermits x = falling();
        x.addRamp(1900, 1, 5);
        int[][] want = {{0, NONE}, {30, NONE}, {31, 7}, {41, 6}, {59, 5}, {60, 5}, {61, 4}, {100, 1}, {101, 0},
            {300, 0}};
        for (int[] w : want) {
            due.is("closure(0, " + w[0] + ")", x.closure(0, w[0]), w[1]);
        }
        Calls.passDays(x, 7);
        due.is("closure(0, 100) from today on", x.closure(0, 100), NONE);
        due.is("closure(0, 101) from today on", x.closure(0, 101), 7);
        x.setRate(1, 0);
        due.is("closure(0, 94) on the last day", x.closure(0, 94), NONE);
        due.is("closure(0, 95) on the last day", x.closure(0, 95), 181);
        due.is("closure(0, 96) before it", x.closure(0, 96), 180);
        for (int wrong : new int[] {-1, 1, Integer.MIN_VALUE, Integer.MAX_VALUE}) {
            due.is("closure(" + wrong + ", 0)", x.closure(wrong, 0), INVALID);
        }
        for (int wrong : new int[] {-1, 301, Integer.MIN_VALUE, Integer.MAX_VALUE}) {
            due.is("closure(0, " + wrong + ")", x.closure(0, wrong), INVALID);
        }
    }

    private void draughtFor() {
        due.part("promise 27");
        RampPermits x = falling();
        x.addRamp(1940, 1, 5);
        x.addRamp(500, 1, 5);
        due.is("draughtFor(0, 0, 0)", x.draughtFor(0, 0, 0), 60);
        due.is("draughtFor(0, 0, 5)", x.draughtFor(0, 0, 5), 10);
        due.is("draughtFor(0, 0, 6)", x.draughtFor(0, 0, 6), 0);
        due.is("draughtFor(0, 0, 7)", x.draughtFor(0, 0, 7), NONE);
        due.is("draughtFor(0, 7, 7)", x.draughtFor(0, 7, 7), NONE);
        due.is("draughtFor(0, 6, 13)", x.draughtFor(0, 6, 13), NONE);
        due.is("draughtFor(0, 10, 181)", x.draughtFor(0, 10, 181), 5);
        due.is("draughtFor(0, 20, 181)", x.draughtFor(0, 20, 181), 19);
        due.is("draughtFor(1, 0, 181)", x.draughtFor(1, 0, 181), 300);
        int[][] wrong = {{-1, 0, 0}, {2, 0, 0}, {0, -1, 0}, {0, 182, 182}, {0, 0, 182}, {0, 5, 4},
            {Integer.MAX_VALUE, 0, 0}, {0, Integer.MIN_VALUE, 0}, {0, 0, Integer.MAX_VALUE}};
        for (int[] w : wrong) {
            due.is("draughtFor(" + w[0] + ", " + w[1] + ", " + w[2] + ")", x.draughtFor(w[0], w[1], w[2]),
                INVALID);
        }
        Calls.passDays(x, 3);
        due.is("draughtFor(0, 2, 9) before today", x.draughtFor(0, 2, 9), ILLEGAL);
        due.is("draughtFor(0, 2, 1) before today", x.draughtFor(0, 2, 1), INVALID);
        due.is("draughtFor(0, 3, 3)", x.draughtFor(0, 3, 3), 60);
    }

    private void bestRamp() {
        due.part("promise 28");
        RampPermits x = falling();
        due.is("bestRamp(0, 0, 0) without ramps", x.bestRamp(0, 0, 0), NONE);
        x.addRamp(1950, 1, 500);
        due.is("one ramp for 500", x.bestRamp(0, 0, 0), 0);
        x.addRamp(1800, 1, 20);
        x.addRamp(1900, 1, 10);
        x.addRamp(1700, 1, 20);
        due.is("the smallest fee", x.bestRamp(0, 0, 100), 2);
        due.is("the smallest fee that fits, of two the first", x.bestRamp(0, 0, 101), 1);
        due.is("only one is deep enough", x.bestRamp(0, 0, 201), 3);
        due.is("none is deep enough", x.bestRamp(0, 1, 300), NONE);
        due.is("closed on day 7", x.bestRamp(0, 7, 50), 1);
        due.is("to day 29", x.bestRamp(0, 29, 0), 2);
        x.setFee(0, 1);
        due.is("the smallest fee is closed on day 6", x.bestRamp(0, 6, 0), 2);
        due.is("but not to day 5", x.bestRamp(0, 5, 0), 0);
        int[][] wrong = {{-1, 0, 0}, {182, 182, 0}, {0, 182, 0}, {5, 4, 0}, {0, 30, 0}, {0, 0, -1}, {0, 0, 301},
            {Integer.MIN_VALUE, Integer.MAX_VALUE, 0}, {0, Integer.MAX_VALUE, 0}, {0, 0, Integer.MIN_VALUE}};
        for (int[] w : wrong) {
            due.is("bestRamp(" + w[0] + ", " + w[1] + ", " + w[2] + ")", x.bestRamp(w[0], w[1], w[2]), INVALID);
        }
        x.pass(0);
        due.is("bestRamp(0, 3, 0) before today", x.bestRamp(0, 3, 0), ILLEGAL);
        due.is("bestRamp(0, 3, 301) before today", x.bestRamp(0, 3, 301), INVALID);
        due.is("bestRamp(0, 30, 0) before today", x.bestRamp(0, 30, 0), INVALID);
    }

    private void bestRampBoats() {
        due.part("promise 28, boats");
        RampPermits x = new RampPermits();
        x.addRamp(1000, 1, 10);
        x.addRamp(1000, 2, 20);
        x.buy(0, 3, 5, 0);
        x.buy(1, 4, 6, 0);
        due.is("free before", x.bestRamp(0, 2, 0), 0);
        due.is("taken", x.bestRamp(2, 3, 0), 1);
        due.is("free behind", x.bestRamp(6, 9, 0), 0);
        x.buy(1, 4, 4, 0);
        due.is("both are taken", x.bestRamp(0, 9, 0), NONE);
        due.is("one boat is left", x.bestRamp(5, 9, 0), 1);
        String before = Calls.stateOf(x);
        x.bestRamp(5, 9, 0);
        due.isTrue("it changes nothing", before.equals(Calls.stateOf(x)));
    }

    private void expected() {
        due.part("promise 29");
        RampPermits x = new RampPermits();
        x.addRamp(1900, 2, 21);
        x.buy(0, 1, 6, 80);
        x.buy(0, 2, 6, 0);
        due.is("expected(0, 0)", x.expected(0, 0), 0);
        due.is("expected(0, 1)", x.expected(0, 1), 0);
        x.setRate(0, -10);
        due.is("closed on the days 3 to 6", x.expected(0, 0), 4);
        due.is("expected(0, 1)", x.expected(0, 1), 84);
        due.is("another draught", x.expected(1, 0), 0);
        x.setLevel(1979);
        x.pass(-10);
        x.pass(-500);
        due.is("closed on the days 2 to 6", x.expected(0, 0), 5);
        due.is("with what is owed now", x.expected(0, 1), 126);
        due.is("expected(1, 0)", x.expected(1, 0), 5);
        x.refund(0);
        due.is("without what was refunded", x.expected(0, 1), 105);
        x.setLevel(2000);
        x.cancel(1);
        x.setLevel(0);
        due.is("a cancelled one loses none", x.expected(1, 0), 0);
        due.is("but is owed what it is", x.expected(1, 1), 50);
        Calls.passDays(x, 5);
        due.is("a passed one loses none", x.expected(0, 0), 0);
        due.is("but is owed what it is", x.expected(0, 1), 105);
        for (int wrong : new int[] {-1, 2, Integer.MIN_VALUE, Integer.MAX_VALUE}) {
            due.is("expected(" + wrong + ", 0)", x.expected(wrong, 0), INVALID);
            due.is("expected(0, " + wrong + ")", x.expected(0, wrong), INVALID);
        }
    }

    private void part() {
        due.part("promise 30");
        RampPermits x = new RampPermits();
        x.addRamp(1900, 2, 21);
        x.buy(0, 1, 30, 0);
        for (int wrong : new int[] {-1, 1, Integer.MIN_VALUE, Integer.MAX_VALUE}) {
            due.is("part(" + wrong + ")", x.part(wrong), INVALID);
        }
        due.is("no day has passed", x.part(0), NONE);
        x.pass(-101);
        due.is("no day of it has passed", x.part(0), NONE);
        x.pass(101);
        due.is("0 of 1", x.part(0), 0);
        x.pass(0);
        due.is("1 of 2", x.part(0), 500);
        x.pass(0);
        due.is("2 of 3", x.part(0), 666);
        Calls.passDays(x, 3);
        due.is("5 of 6", x.part(0), 833);
        x.cancel(0);
        due.is("5 of 6, cancelled", x.part(0), 833);
        x.buy(0, 7, 8, 0);
        Calls.passDays(x, 3);
        due.is("2 of 2", x.part(1), 1000);
    }

    private void volume() {
        due.part("promise 31");
        RampPermits x = new RampPermits();
        int[][] want = {{0, 0}, {1, 13}, {2, 28}, {3, 44}, {10, 200}, {101, 8913}, {4999, 18804988},
            {5000, 18812500}};
        for (int[] w : want) {
            due.is("volume(" + w[0] + ")", x.volume(w[0]), w[1]);
        }
        for (int wrong : new int[] {-1, 5001, Integer.MIN_VALUE, Integer.MAX_VALUE}) {
            due.is("volume(" + wrong + ")", x.volume(wrong), INVALID);
        }
    }
}
