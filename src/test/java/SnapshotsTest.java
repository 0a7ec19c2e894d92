/** Promises 13 to 15: take, restore, undo. */
final class SnapshotsTest {
    private static final int INVALID = RampPermits.INVALID_ARGUMENT;
    private static final int ILLEGAL = RampPermits.ILLEGAL_STATE;
    private static final int[] WRONG_SLOTS = {-1, 2, Integer.MIN_VALUE, Integer.MAX_VALUE};

    private final Due due = new Due("SnapshotsTest");

    public static void main(String[] args) {
        SnapshotsTest test = new SnapshotsTest();
        test.take();
        test.restoreRefused();
        test.restore();
        test.restoreOtherPermits();
        test.snapshotsBelongToTheState();
        test.undo();
        test.undoOfEachAction();
        test.historyOfFive();
        test.due.finish();
    }

    /** An object in which each part of a snapshot is other than at first. */
    private static RampPermits busy() {
        RampPermits x = new RampPermits();
        x.addRamp(1800, 2, 30);
        x.addRamp(1700, 2, 21);
        x.setRate(0, -7);
        x.setRate(25, 9);
        x.buy(0, 0, 4, 50);
        x.buy(1, 0, 2, 50);
        x.buy(0, 3, 8, 60);
        x.pass(-140);
        x.pass(200);
        x.move(2, 1);
        x.cancel(1);
        x.refund(0);
        x.setFine(3, 77);
        x.launch(0, 0, 2);
        x.launch(0, 300, 2);
        x.launch(0, 55, 0);
        return x;
    }

    /** Changes each part of a snapshot. */
    private static void changeAll(RampPermits x) {
        x.addRamp(100, 3, 3);
        x.setFee(0, 99);
        x.setRate(0, 3);
        x.setRate(25, 4);
        x.setRate(13, 4);
        x.buy(2, 10, 12, 0);
        x.pass(11);
        x.cancel(2);
        x.refund(2);
        for (int reason = 1; reason <= 3; reason++) {
            x.setFine(reason, 5 + reason);
        }
        x.launch(0, 0, -1);
        x.launch(0, 300, -1);
    }

    private void take() {
        due.part("promise 13");
        RampPermits x = busy();
        due.is("count(5)", x.count(5), 0);
        due.is("take(1)", x.take(1), 2);
        due.is("count(5)", x.count(5), 1);
        due.is("take(1) again", x.take(1), 2);
        due.is("count(5)", x.count(5), 1);
        due.is("take(0)", x.take(0), 2);
        due.is("count(5)", x.count(5), 2);
        String before = Calls.stateOf(x);
        for (int wrong : WRONG_SLOTS) {
            due.is("take(" + wrong + ")", x.take(wrong), INVALID);
        }
        due.isTrue("errors change nothing", before.equals(Calls.stateOf(x)));
        x.undo();
        due.is("take is an action", x.count(5), 1);
    }

    private void restoreRefused() {
        due.part("promise 14, refused");
        RampPermits x = busy();
        String before = Calls.stateOf(x);
        due.is("restore(0), which is empty", x.restore(0), ILLEGAL);
        for (int wrong : WRONG_SLOTS) {
            due.is("restore(" + wrong + ")", x.restore(wrong), INVALID);
        }
        due.isTrue("errors change nothing", before.equals(Calls.stateOf(x)));
        x.take(0);
        due.is("restore(1), which is still empty", x.restore(1), ILLEGAL);
    }

    private void restore() {
        due.part("promise 14");
        String season = Calls.seasonOf(busy());
        RampPermits changed = busy();
        changeAll(changed);
        String later = Calls.seasonOf(changed);
        due.isTrue("all has changed", !season.equals(later));
        RampPermits x = busy();
        x.take(0);
        changeAll(x);
        Calls.write(x, "buy");
        x.run();
        x.take(1);
        due.is("restore(0)", x.restore(0), 2);
        due.isTrue("all is as it was", season.equals(Calls.seasonOf(x)));
        due.is("the history is not restored", x.count(6), 5);
        due.is("nor is the text", x.count(7), 3);
        due.is("nor is the failure", x.failure(1), 3);
        due.is("the snapshots stay", x.count(5), 2);
        changeAll(x);
        due.is("restore(0) again", x.restore(0), 2);
        due.is("restore(1)", x.restore(1), 3);
        due.isTrue("the other snapshot", later.equals(Calls.seasonOf(x)));
        due.is("restore is an action", x.undo(), 4);
        due.isTrue("as before it, so the first snapshot had not changed", season.equals(Calls.seasonOf(x)));
    }

    private void restoreOtherPermits() {
        due.part("promise 14, other ramps and permits under the same numbers");
        RampPermits x = new RampPermits();
        x.take(0);
        String empty = Calls.seasonOf(x);
        x.addRamp(1900, 2, 30);
        x.addRamp(1700, 3, 20);
        x.buy(0, 0, 5, 40);
        x.pass(-60);
        x.pass(0);
        x.move(0, 1);
        x.refund(0);
        x.pass(-300);
        x.pass(0);
        x.setLevel(2000);
        x.cancel(0);
        due.is("permit(0, 7)", x.permit(0, 7), 40);
        x.take(1);
        String first = Calls.seasonOf(x);
        x.restore(0);
        due.isTrue("the empty one", empty.equals(Calls.seasonOf(x)));
        x.addRamp(10, 1, 1);
        due.is("buy(0, 7, 9, 11)", x.buy(0, 7, 9, 11), 0);
        int[] want = {0, 7, 9, 11, 1, 3, 0, 0, 0, 0, 0, 3, 0};
        for (int what = 0; what < want.length; what++) {
            due.is("permit(0, " + what + ") of the other permit", x.permit(0, what), want[what]);
        }
        String other = Calls.seasonOf(x);
        x.restore(1);
        due.isTrue("the first one", first.equals(Calls.seasonOf(x)));
        x.undo();
        due.isTrue("the other one", other.equals(Calls.seasonOf(x)));
    }

    private void snapshotsBelongToTheState() {
        due.part("promise 14 and 15, snapshots belong to a state");
        RampPermits x = new RampPermits();
        x.setLevel(100);
        x.take(0);
        x.setLevel(200);
        x.take(0);
        due.is("undo() of the second take", x.undo(), 3);
        due.is("restore(0)", x.restore(0), 0);
        due.is("the level of the first take", x.count(1), 100);
        x.undo();
        x.undo();
        due.is("undo() of the first take", x.undo(), 1);
        due.is("restore(0), which is empty again", x.restore(0), ILLEGAL);
        x.take(1);
        x.setLevel(7);
        x.restore(1);
        due.is("restore does not empty slots", x.count(5), 1);
    }

    private void undo() {
        due.part("promise 15");
        RampPermits x = new RampPermits();
        due.is("undo() of nothing", x.undo(), ILLEGAL);
        x.setLevel(100);
        x.setLevel(100);
        due.is("states", x.count(6), 2);
        due.is("undo() of what changed nothing", x.undo(), 1);
        due.is("level", x.count(1), 100);
        Calls.write(x, "pass 600;");
        due.is("run()", x.run(), -1000);
        due.is("undo()", x.undo(), 0);
        due.is("level", x.count(1), 2000);
        due.is("the text stays", x.count(7), 9);
        due.is("the failure stays", x.failure(0), 2);
        due.is("undo() of nothing", x.undo(), ILLEGAL);
    }

    private void undoOfEachAction() {
        due.part("promise 15, each action");
        for (int action = 0; action < 15; action++) {
            RampPermits x = busy();
            x.take(0);
            x.take(1);
            x.setRate(20, action + 1);
            String before = Calls.seasonOf(x);
            due.isTrue("action " + action + " succeeds", act(x, action) >= -500);
            due.is("undo() of action " + action, x.undo(), 4);
            due.isTrue("action " + action + " is undone", before.equals(Calls.seasonOf(x)));
        }
    }

    private static int act(RampPermits x, int action) {
        switch (action) {
            case 0:
                return x.setLevel(1234);
            case 1:
                return x.setRate(5, 5);
            case 2:
                return x.addRamp(5, 5, 5);
            case 3:
                return x.setFee(1, 444);
            case 4:
                return x.setFine(1, 444);
            case 5:
                return x.buy(1, 100, 102, 10);
            case 6:
                return x.move(0, 1);
            case 7:
                return x.cancel(2);
            case 8:
                return x.refund(1);
            case 9:
                return x.pass(-400);
            case 10:
                return x.launch(0, 300, -1);
            case 11:
                return x.take(0);
            case 12:
                return x.restore(1);
            case 13:
                return Calls.run(x, "pass 5; rate 3 4;");
            default:
                return Calls.run(x, "");
        }
    }

    private void historyOfFive() {
        due.part("promise 15, five states");
        RampPermits x = new RampPermits();
        for (int level = 1; level <= 13; level++) {
            x.setLevel(level);
            due.is("states after " + level, x.count(6), Math.min(level, 5));
        }
        for (int left = 4; left >= 0; left--) {
            due.is("undo()", x.undo(), left);
            due.is("level", x.count(1), 8 + left);
        }
        due.is("undo() of what was dropped", x.undo(), ILLEGAL);
        due.is("level", x.count(1), 8);
        for (int level = 21; level <= 25; level++) {
            x.setLevel(level);
        }
        due.is("a failed program drops no state", Calls.run(x, "pass 1; pass 501;"), -1008);
        due.is("level", x.count(1), 25);
        x.setLevel(5001);
        x.restore(0);
        for (int left = 4; left >= 0; left--) {
            due.is("undo()", x.undo(), left);
            due.is("level", x.count(1), left == 0 ? 8 : 20 + left);
        }
    }
}
