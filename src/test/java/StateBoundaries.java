import java.util.function.ToIntFunction;

/** Boundary cases of the sections Snapshots, Undo and Errors, and of the promises 13 to 15. */
final class StateBoundaries extends Boundaries {
    StateBoundaries(Due due, Claims claims) {
        super(due, claims);
    }

    @Override
    void testAll() {
        twoSlots();
        whatASnapshotKeeps();
        otherNumbersAreForgotten();
        nothingElseChanges();
        atMostFiveStates();
        whatAStateIs();
        successfulCallsRecord();
        otherCallsRecordNothing();
        oldestIsDropped();
        undoRestores();
        errorsChangeNothing();
        refusedCallsOfFullObjectsChangeNothing();
        firstErrorOfActions();
        firstErrorOfOtherCalls();
        noneIsNoError();
        constants();
        forecastsChangeNothing();
        take();
        restore();
        undo();
    }

    // ---- Snapshots

    private void twoSlots() {
        sentence("Snapshots", "There are two slots for snapshots, empty at first");
        RampPermits x = new RampPermits();
        is("snapshots at first", x.count(5), 0);
        is("restore(0) at first", x.restore(0), ILLEGAL);
        is("restore(1) at first", x.restore(1), ILLEGAL);
        x.setLevel(1);
        is("take(0)", x.take(0), 0);
        is("restore(1) when only 0 is taken", x.restore(1), ILLEGAL);
        x.setLevel(2);
        is("take(1)", x.take(1), 0);
        is("snapshots", x.count(5), 2);
        x.restore(0);
        is("level of snapshot 0", x.count(1), 1);
        x.restore(1);
        is("level of snapshot 1", x.count(1), 2);
        is("take(2)", x.take(2), INVALID);
    }

    /** Calls that each change another part of what a snapshot keeps. */
    private static final String[] PARTS = {"today", "the level", "a rate", "a new ramp", "a fee",
        "a new permit", "a permit's ramp", "a permit's end", "a refund", "an amount of a fine", "a fine"};

    private static int change(RampPermits x, int part) {
        switch (part) {
            case 0:
                return x.pass(0);
            case 1:
                return x.setLevel(1999);
            case 2:
                return x.setRate(25, -50);
            case 3:
                return x.addRamp(0, 1, 1);
            case 4:
                return x.setFee(0, 500);
            case 5:
                return x.buy(1, 181, 181, 0);
            case 6:
                return x.move(0, 1);
            case 7:
                return x.cancel(0);
            case 8:
                return x.refund(2);
            case 9:
                return x.setFine(1, 0);
            default:
                return x.launch(0, 0, -1);
        }
    }

    private void whatASnapshotKeeps() {
        sentence("Snapshots", "A snapshot keeps today, the level, the rates, the ramps, the permits with their money");
        for (int part = 0; part < PARTS.length; part++) {
            RampPermits x = Scenes.busy();
            x.take(0);
            isTrue("change of " + PARTS[part], change(x, part) > ILLEGAL + 1000);
            x.restore(0);
            isTrue("restored is " + PARTS[part], Calls.seasonOf(x).equals(Calls.seasonOf(Scenes.busy())));
        }
        sentence("Snapshots", "To restore it makes all this as it was");
        for (int part = 0; part < PARTS.length; part++) {
            RampPermits changed = Scenes.busy();
            change(changed, part);
            RampPermits x = Scenes.busy();
            x.take(0);
            change(x, part);
            x.take(1);
            x.restore(0);
            x.restore(1);
            isTrue("restored once more is " + PARTS[part], Calls.seasonOf(x).equals(Calls.seasonOf(changed)));
        }
    }

    /** A ramp and a permit with each amount and each number of days above 0, cancelled. */
    private static void fillNumbers(RampPermits x) {
        x.addRamp(1700, 20, 500);
        x.addRamp(1700, 20, 498);
        x.buy(0, 0, 8, 299);
        x.pass(-2);
        x.pass(2);
        x.refund(0);
        x.move(0, 1);
        x.cancel(0);
    }

    private void otherNumbersAreForgotten() {
        sentence("Snapshots", "makes all this as it was");
        RampPermits x = new RampPermits();
        x.take(1);
        fillNumbers(x);
        int[] used = {1, 0, 8, 299, 498, 4500, 2243, 1757, 500, 1, 1, 0, 1};
        for (int what = 0; what <= 12; what++) {
            is("permit(0, " + what + ")", x.permit(0, what), used[what]);
        }
        x.take(0);
        x.restore(1);
        isTrue("restored is a new object's state", Calls.seasonOf(x).equals(Calls.seasonOf(new RampPermits())));
        is("permit(0, 0)", x.permit(0, 0), INVALID);
        is("ramp(0, 0)", x.ramp(0, 0), INVALID);
        is("a first ramp", x.addRamp(1, 2, 3), 0);
        is("a first permit", x.buy(0, 5, 7, 4), 0);
        int[] other = {0, 5, 7, 4, 3, 9, 0, 0, 0, 0, 0, 3, 0};
        for (int what = 0; what <= 12; what++) {
            is("permit(0, " + what + ") of another permit", x.permit(0, what), other[what]);
        }
        String season = Calls.seasonOf(x);
        x.restore(0);
        for (int what = 0; what <= 12; what++) {
            is("permit(0, " + what + ") of the first permit", x.permit(0, what), used[what]);
        }
        is("ramp(0, 0)", x.ramp(0, 0), 1700);
        is("ramp(0, 1)", x.ramp(0, 1), 20);
        is("ramp(0, 2)", x.ramp(0, 2), 500);
        x.undo();
        isTrue("undone is the restore", season.equals(Calls.seasonOf(x)));
    }

    private void nothingElseChanges() {
        sentence("Snapshots", "nothing else changes");
        RampPermits x = Scenes.busy();
        x.take(0);
        Calls.run(x, "rate 0 51;");
        Calls.write(x, "pass 1; ");
        x.setLevel(0);
        is("states before", x.count(6), 5);
        x.restore(0);
        is("length of the text", x.count(7), 8);
        is("failure(0)", x.failure(0), 2);
        is("failure(1)", x.failure(1), 0);
        is("snapshots", x.count(5), 2);
        is("states, with the one before the restore", x.count(6), 5);
        is("undo()", x.undo(), 4);
        is("level before the restore", x.count(1), 0);
        is("the text runs", x.run(), 1);
        is("the other snapshot", x.restore(1), 2);
    }

    // ---- Undo

    private void atMostFiveStates() {
        sentence("Undo", "A history of at most 5 states is kept");
        RampPermits x = new RampPermits();
        is("states at first", x.count(6), 0);
        for (int states = 1; states <= 12; states++) {
            x.setLevel(states);
            is("states after " + states + " actions", x.count(6), Math.min(5, states));
        }
        for (int left = 4; left >= 0; left--) {
            is("undo()", x.undo(), left);
            is("states", x.count(6), left);
        }
        is("undo() of an empty history", x.undo(), ILLEGAL);
        is("states", x.count(6), 0);
    }

    private void whatAStateIs() {
        sentence("Undo",
            "a state is everything but the text, the failure and the history (the snapshots belong to it)");
        RampPermits x = new RampPermits();
        x.take(1);
        Calls.run(x, "x");
        x.append('y');
        is("undo() of the first take", x.undo(), 0);
        is("length of the text", x.count(7), 2);
        is("failure(0)", x.failure(0), 1);
        is("snapshots", x.count(5), 0);
        is("restore(1)", x.restore(1), ILLEGAL);
        x.setLevel(1);
        x.take(0);
        x.setLevel(2);
        x.take(0);
        x.undo();
        x.restore(0);
        is("level of the snapshot that was replaced", x.count(1), 1);
        for (int part = 0; part < PARTS.length; part++) {
            int number = part;
            recorded(Scenes::busy, "a change of " + PARTS[part], y -> change(y, number));
        }
    }

    private void successfulCallsRecord() {
        sentence("Undo", "records the state before it (also if nothing changes by it)");
        recorded(Scenes::busy, "setLevel as it is", x -> x.setLevel(x.count(1)));
        recorded(Scenes::busy, "setRate as it is", x -> x.setRate(0, x.rate(0)));
        recorded(Scenes::busy, "setFee as it is", x -> x.setFee(0, x.ramp(0, 2)));
        recorded(Scenes::busy, "setFine as it is", x -> x.setFine(1, x.count(8)));
        recorded(Scenes::busy, "launch without a fine", x -> x.launch(0, 50, 0));
        recorded(() -> onlyIn(0), "take of what is in the slot", x -> x.take(0));
        recorded(() -> restored(Scenes.busy()), "restore of the state as it is", x -> x.restore(1));
        recorded(Scenes::oneRamp, "run of an empty text", RampPermits::run);
    }

    private static RampPermits restored(RampPermits x) {
        x.restore(1);
        return x;
    }

    private void otherCallsRecordNothing() {
        sentence("Undo", "Every successful call of a method that is called an action");
        unchangedStates("append", x -> x.append('a'));
        unchangedStates("clearText", RampPermits::clearText);
        unchangedStates("a program that fails", x -> Calls.run(x, "pass 501;"));
        unchangedStates("count", x -> x.count(1));
        unchangedStates("forecast", x -> x.forecast(181));
        unchangedStates("a refused call", x -> x.setLevel(-1));
        unchangedStates("undo of an empty history", RampPermits::undo);
    }

    private void unchangedStates(String call, ToIntFunction<RampPermits> calling) {
        RampPermits x = Scenes.busy();
        Calls.forgetHistory(x);
        calling.applyAsInt(x);
        is("states after " + call, x.count(6), 0);
        is("undo() after " + call, x.undo(), ILLEGAL);
    }

    private void oldestIsDropped() {
        sentence("Undo", "when a sixth one is recorded, the oldest one is dropped");
        RampPermits x = new RampPermits();
        for (int level = 1; level <= 5; level++) {
            x.setLevel(level);
        }
        RampPermits y = new RampPermits();
        for (int level = 1; level <= 6; level++) {
            y.setLevel(level);
        }
        for (int i = 0; i < 5; i++) {
            x.undo();
            y.undo();
        }
        is("level after 5 actions and 5 undo()", x.count(1), 2000);
        is("level after 6 actions and 5 undo()", y.count(1), 1);
        is("a sixth undo()", y.undo(), ILLEGAL);
        is("level after it", y.count(1), 1);
    }

    private void undoRestores() {
        sentence("Undo", "undo() removes the latest state from the history and restores it");
        RampPermits x = new RampPermits();
        x.setLevel(1);
        x.setLevel(2);
        x.setLevel(3);
        x.undo();
        x.setLevel(4);
        is("undo() of the fourth action", x.undo(), 2);
        is("level", x.count(1), 2);
        is("undo() of the second action", x.undo(), 1);
        is("level", x.count(1), 1);
        is("undo() of the first action", x.undo(), 0);
        is("level", x.count(1), 2000);
    }

    // ---- Errors

    private void errorsChangeNothing() {
        sentence("Errors", "A call that returns an error code changes nothing");
        refused(Scenes::busy, "setLevel", x -> x.setLevel(5001), INVALID);
        refused(Scenes::busy, "setRate", x -> x.setRate(0, 51), INVALID);
        refused(Scenes::busy, "addRamp", x -> x.addRamp(0, 1, 501), INVALID);
        refused(Scenes::busy, "setFee", x -> x.setFee(0, 501), INVALID);
        refused(Scenes::busy, "setFine", x -> x.setFine(1, 501), INVALID);
        refused(Scenes::busy, "buy", x -> x.buy(1, 2, 2, 301), INVALID);
        refused(Scenes::busy, "buy before today", x -> x.buy(1, 1, 2, 0), ILLEGAL);
        refused(Scenes::busy, "buy where it is closed", x -> x.buy(0, 2, 2, 201), ILLEGAL);
        refused(Scenes::busy, "move", x -> x.move(0, 3), INVALID);
        refused(Scenes::busy, "move of a passed permit", x -> x.move(3, 0), ILLEGAL);
        refused(Scenes::busy, "move to where it is closed", x -> x.move(0, 2), ILLEGAL);
        refused(Scenes::busy, "cancel", x -> x.cancel(5), INVALID);
        refused(Scenes::busy, "cancel of a passed permit", x -> x.cancel(3), ILLEGAL);
        refused(Scenes::busy, "refund", x -> x.refund(5), INVALID);
        refused(Scenes::busy, "refund of nothing", x -> x.refund(3), ILLEGAL);
        refused(Scenes::busy, "pass", x -> x.pass(501), INVALID);
        refused(Scenes::busy, "launch", x -> x.launch(0, 300, 5), INVALID);
        refused(Scenes::busy, "take", x -> x.take(2), INVALID);
        refused(Scenes::busy, "restore", x -> x.restore(2), INVALID);
        refused(Scenes::busy, "append", x -> x.append(256), INVALID);
        refused(Scenes::busy, "failure", x -> x.failure(5), INVALID);
        refused(Scenes::busy, "forecast", x -> x.forecast(1), ILLEGAL);
        refused(Scenes::busy, "draughtFor", x -> x.draughtFor(0, 1, 2), ILLEGAL);
        refused(Scenes::busy, "bestRamp", x -> x.bestRamp(1, 2, 0), ILLEGAL);
        refused(Scenes::busy, "bestRamp of none", x -> x.bestRamp(3, 3, 300), NONE);
    }

    private void refusedCallsOfFullObjectsChangeNothing() {
        sentence("Errors", "A call that returns an error code changes nothing");
        refused(Scenes::fourRamps, "addRamp", x -> x.addRamp(0, 1, 1), FULL);
        refused(Scenes::twelvePermits, "buy", x -> x.buy(0, 0, 0, 0), FULL);
        refused(Scenes::fullText, "append", x -> x.append(';'), FULL);
        refused(Scenes::lastDay, "pass", x -> x.pass(0), ILLEGAL);
        refused(Scenes::oneRamp, "restore of an empty slot", x -> x.restore(0), ILLEGAL);
        refused(Scenes::fresh, "undo of an empty history", RampPermits::undo, ILLEGAL);
    }

    private void firstErrorOfActions() {
        sentence("Errors", "the method returns the one that its description lists first");
        refusedOf(Scenes::fourRamps, "a fifth ramp with an end", (x, end) -> x.addRamp(end, 1, 1), INVALID, -1, 4001);
        refusedOf(Scenes::fourRamps, "a fifth ramp with boats", (x, b) -> x.addRamp(0, b, 1), INVALID, 0, 21);
        refusedOf(Scenes::fourRamps, "a fifth ramp with a fee", (x, fee) -> x.addRamp(0, 1, fee), INVALID, 0, 501);
        int[][] invalid = {{-1, 2, 2, 0}, {2, 2, 2, 0}, {0, -1, 2, 0}, {0, 2, 182, 0}, {0, 2, 1, 0},
            {0, 0, 30, 0}, {0, 2, 2, 301}, {0, 2, 2, -1}};
        for (int[] a : invalid) {
            String call = "buy(" + a[0] + ", " + a[1] + ", " + a[2] + ", " + a[3] + ")";
            is(call + " with 12 permits", fullAndClosed(0).buy(a[0], a[1], a[2], a[3]), INVALID);
            is(call + " on day 3, with 12 permits, closed", fullAndClosed(3).buy(a[0], a[1], a[2], a[3]), INVALID);
        }
        is("buy before today with 12 permits", fullAndClosed(3).buy(1, 2, 2, 0), ILLEGAL);
        is("buy where it is closed with 12 permits", fullAndClosed(3).buy(1, 5, 5, 0), ILLEGAL);
        is("buy where it is open with 12 permits", fullAndClosed(0).buy(1, 5, 5, 0), FULL);
        is("buy without a boat with 12 permits", fullAndClosed(0).buy(0, 3, 3, 0), ILLEGAL);
        is("move of a passed permit to no ramp", Scenes.onDay(3).move(0, 2), INVALID);
        is("move of a passed permit to ramp -1", Scenes.onDay(3).move(0, -1), INVALID);
        is("move of no permit to its ramp", Scenes.onePermit().move(1, 0), INVALID);
        is("pass(501) on day 181", Scenes.lastDay().pass(501), INVALID);
        is("pass(-501) on day 181", Scenes.lastDay().pass(-501), INVALID);
        is("restore(2) without snapshots", new RampPermits().restore(2), INVALID);
        is("restore(-1) without snapshots", new RampPermits().restore(-1), INVALID);
    }

    /** Twelve permits and two ramps, the first of which has no boat left on day 3; closed from day 1 on. */
    private static RampPermits fullAndClosed(int today) {
        RampPermits x = new RampPermits();
        x.addRamp(1700, 11, 10);
        x.addRamp(1700, 20, 10);
        Calls.buyMany(x, 11, 0, 3, 4);
        x.buy(1, 3, 4, 0);
        for (int day = 0; day < today; day++) {
            x.pass(-500);
        }
        return x;
    }

    private void firstErrorOfOtherCalls() {
        sentence("Errors", "If several error conditions apply");
        refusedOf(Scenes::fullText, "append to a full text", RampPermits::append, INVALID, LEAST, 0, 256, GREATEST);
        refusedOf(Scenes::fresh, "failure without one", RampPermits::failure, INVALID, LEAST, -1, 5, GREATEST);
        is("forecast(-1), which is before today too", Scenes.onDay(3).forecast(-1), INVALID);
        is("forecast(182) on day 181", Scenes.lastDay().forecast(182), INVALID);
        is("closure of no ramp that is closed", fullAndClosed(3).closure(2, 0), INVALID);
        is("closure for 301 where it is closed", fullAndClosed(3).closure(0, 301), INVALID);
        is("draughtFor of no ramp, before today", fullAndClosed(3).draughtFor(2, 2, 3), INVALID);
        is("draughtFor to before its first day, before today", fullAndClosed(3).draughtFor(0, 2, 1), INVALID);
        is("draughtFor to day 182, before today", fullAndClosed(3).draughtFor(0, 2, 182), INVALID);
        is("draughtFor from day -1, before today", fullAndClosed(3).draughtFor(0, -1, 3), INVALID);
        is("draughtFor before today, where it is closed", fullAndClosed(3).draughtFor(0, 2, 3), ILLEGAL);
        is("draughtFor where it is closed", fullAndClosed(3).draughtFor(0, 3, 3), NONE);
        is("bestRamp for 301, before today", fullAndClosed(3).bestRamp(2, 3, 301), INVALID);
        is("bestRamp for 30 days more, before today", fullAndClosed(3).bestRamp(2, 32, 0), INVALID);
        is("bestRamp to before its first day, before today", fullAndClosed(3).bestRamp(2, 1, 0), INVALID);
        is("bestRamp from day -1, before today", fullAndClosed(3).bestRamp(-1, 1, 0), INVALID);
        is("bestRamp before today, where all are closed", fullAndClosed(3).bestRamp(2, 3, 0), ILLEGAL);
        is("bestRamp where all are closed", fullAndClosed(3).bestRamp(3, 3, 0), NONE);
        is("ramp(2, 5) of no ramp, when all are closed", fullAndClosed(3).ramp(2, 5), INVALID);
        is("part of no permit", fullAndClosed(3).part(12), INVALID);
    }

    private void noneIsNoError() {
        sentence("Errors", "NONE is no error, and it is returned only if no error condition applies");
        RampPermits x = Scenes.onePermit();
        x.setLevel(1699);
        is("ramp(0, 5) where it is closed", x.ramp(0, 5), NONE);
        is("ramp(2, 5)", x.ramp(2, 5), INVALID);
        is("failure(3)", x.failure(3), NONE);
        is("failure(5)", x.failure(5), INVALID);
        is("part(0)", x.part(0), NONE);
        is("part(1)", x.part(1), INVALID);
        is("draughtFor(0, 0, 0)", x.draughtFor(0, 0, 0), NONE);
        is("bestRamp(0, 0, 0)", x.bestRamp(0, 0, 0), NONE);
        is("bestRamp(0, 30, 0)", x.bestRamp(0, 30, 0), INVALID);
        x.pass(0);
        is("draughtFor(0, 0, 1) on day 1", x.draughtFor(0, 0, 1), ILLEGAL);
        is("bestRamp(0, 1, 0) on day 1", x.bestRamp(0, 1, 0), ILLEGAL);
        x.setLevel(1700);
        is("closure(0, 0) where it stays open", x.closure(0, 0), NONE);
    }

    private void constants() {
        sentence("Errors",
            "`INVALID_ARGUMENT = -100001`: An argument is out of range, or names something that does not exist");
        is("an argument that is out of range", new RampPermits().setLevel(5001), -100001);
        is("an argument that names no ramp", new RampPermits().ramp(0, 0), -100001);
        is("an argument that names no permit", new RampPermits().cancel(0), -100001);
        sentence("Errors", "`ILLEGAL_STATE = -100002`: The call is not possible in the present state");
        is("undo of nothing", new RampPermits().undo(), -100002);
        sentence("Errors", "`CAPACITY_EXCEEDED = -100003`: There is no room");
        is("a fifth ramp", Scenes.fourRamps().addRamp(0, 1, 1), -100003);
        sentence("Errors", "`NONE = -100009`: There is no such value");
        is("no failure yet", new RampPermits().failure(0), -100009);
    }

    private void forecastsChangeNothing() {
        sentence("Errors", "forecasts, which change nothing");
        unchanged(Scenes::busy, "forecast", x -> x.forecast(181));
        unchanged(Scenes::busy, "closure", x -> x.closure(2, 300));
        unchanged(Scenes::busy, "draughtFor", x -> x.draughtFor(2, 2, 181));
        unchanged(Scenes::busy, "bestRamp", x -> x.bestRamp(2, 31, 0));
        unchanged(Scenes::busy, "expected 0", x -> x.expected(0, 0));
        unchanged(Scenes::busy, "expected 1", x -> x.expected(4, 1));
        unchanged(Scenes::busy, "part", x -> x.part(0));
        unchanged(Scenes::busy, "volume", x -> x.volume(5000));
    }

    // ---- the promises

    private void take() {
        sentence("Promise 13", "Takes a snapshot, in place of one that is there");
        RampPermits x = new RampPermits();
        x.take(0);
        x.setLevel(1);
        x.take(0);
        is("snapshots", x.count(5), 1);
        x.setLevel(2);
        x.restore(0);
        is("level of the snapshot that is there now", x.count(1), 1);
        sentence("Promise 13", "`slot`: 0 or 1");
        range(Scenes::busy, "take", 0, 1, RampPermits::take, 2, 2);
        range(Scenes::fresh, "take the first time", 0, 1, RampPermits::take, 0, 0);
        sentence("Promise 13", "This is an action");
        recorded(Scenes::busy, "take(0)", y -> y.take(0));
        recorded(Scenes::fresh, "take(1) into an empty slot", y -> y.take(1));
        sentence("Promise 13", "Returns today");
        is("take on day 0", new RampPermits().take(1), 0);
        is("take on day 1", Scenes.onDay(1).take(1), 1);
        is("take on day 181", Scenes.lastDay().take(0), 181);
        sentence("Promise 13", "INVALID_ARGUMENT if slot is out of range");
        refusedOf(Scenes::busy, "take", RampPermits::take, INVALID, LEAST, -1, 2, GREATEST);
    }

    private void restore() {
        sentence("Promise 14", "Restores a snapshot, which stays");
        RampPermits x = Scenes.busy();
        x.restore(0);
        x.pass(-500);
        x.buy(1, 1, 1, 0);
        is("restore(0) again", x.restore(0), 0);
        is("restore(0) a third time", x.restore(0), 0);
        is("level", x.count(1), 2000);
        is("snapshots", x.count(5), 2);
        sentence("Promise 14", "`slot`: 0 or 1");
        range(Scenes::busy, "restore", 0, 1, RampPermits::restore, 0, 2);
        sentence("Promise 14", "This is an action");
        recorded(Scenes::busy, "restore(0)", y -> y.restore(0));
        sentence("Promise 14", "Returns today then");
        RampPermits last = Scenes.oneRamp();
        last.take(1);
        Calls.passDays(last, 181);
        last.take(0);
        is("restore of day 0 on day 181", last.restore(1), 0);
        is("restore of day 181 on day 0", last.restore(0), 181);
        sentence("Promise 14", "INVALID_ARGUMENT if slot is out of range");
        refusedOf(Scenes::busy, "restore", RampPermits::restore, INVALID, LEAST, -1, 2, GREATEST);
        sentence("Promise 14", "ILLEGAL_STATE if the slot is empty");
        refusedOf(Scenes::oneRamp, "restore without snapshots", RampPermits::restore, ILLEGAL, 0, 1);
        refused(() -> onlyIn(0), "restore(1) with one in 0", y -> y.restore(1), ILLEGAL);
        refused(() -> onlyIn(1), "restore(0) with one in 1", y -> y.restore(0), ILLEGAL);
        is("restore of a slot that is empty again",
            Probe.after(() -> onlyIn(1), RampPermits::undo).get().restore(1), ILLEGAL);
    }

    private static RampPermits onlyIn(int slot) {
        RampPermits x = Scenes.onePermit();
        x.take(slot);
        return x;
    }

    private void undo() {
        sentence("Promise 15", "Removes the latest state from the history and restores it");
        RampPermits x = new RampPermits();
        x.setLevel(1);
        x.setLevel(2);
        x.undo();
        is("level after undo() of the second action", x.count(1), 1);
        is("states", x.count(6), 1);
        sentence("Promise 15", "Returns the number of states that are left in the history");
        RampPermits full = Scenes.busy();
        for (int left = 4; left >= 0; left--) {
            is("undo() of a full history", full.undo(), left);
        }
        sentence("Promise 15", "ILLEGAL_STATE if it is empty");
        refused(Scenes::fresh, "undo() of a new object", RampPermits::undo, ILLEGAL);
        refused(Probe.after(Scenes::busy, y -> {
            Calls.forgetHistory(y);
            return 0;
        }), "undo() of an emptied history", RampPermits::undo, ILLEGAL);
    }
}
