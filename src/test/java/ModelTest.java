/** Compares the program with the model of the document over many long runs of calls. */
final class ModelTest {
    private static final int RUNS = 600;
    private static final int STEPS = 250;
    private static final int[] EXTREMES = {Integer.MIN_VALUE, Integer.MIN_VALUE + 1, -100009, -100001,
        -1001, -501, -51, -2, -1, 0, 1, 13, 14, 182, 301, 501, 4001, 5001, 9999, 1 << 30,
        Integer.MAX_VALUE - 1, Integer.MAX_VALUE};
    private static final String[] PIECES = {";", "-", " ", "0", "00", "1", "7", "x", "pass", "ramp ", "!",
        "\t", "A", "99999", "\u00e9", "- 0", "refund"};

    private final Due due = new Due("ModelTest");
    private long seed;
    private RampPermits real;
    private Model model;

    public static void main(String[] args) {
        ModelTest test = new ModelTest();
        for (int run = 1; run <= RUNS && !test.due.hasWrong(); run++) {
            test.run(run);
        }
        test.due.finish();
    }

    private void run(int run) {
        seed = run * 7919L + 17;
        real = new RampPermits();
        model = new Model();
        setUp();
        for (int step = 1; step <= STEPS && !due.hasWrong(); step++) {
            due.part("run " + run + " step " + step);
            step();
            compareLooks();
            compareForecasts();
        }
    }

    // ---- chance, the same in each run of the test

    private int below(int bound) {
        seed = seed * 6364136223846793005L + 1442695040888963407L;
        return (int) ((seed >>> 33) % bound);
    }

    private int between(int low, int high) {
        return low + below(Math.max(1, high - low + 1));
    }

    /** Mostly a number of the range, at times one next to it or a far one. */
    private int arg(int low, int high) {
        int kind = below(40);
        if (kind == 0) {
            return EXTREMES[below(EXTREMES.length)];
        }
        if (kind == 1) {
            return below(2) == 0 ? low - 1 : high + 1;
        }
        if (kind == 2) {
            return below(2) == 0 ? low : high;
        }
        return between(low, high);
    }

    private int aRamp() {
        return arg(0, Math.max(0, model.count(2) - 1));
    }

    private int aPermit() {
        return arg(0, Math.max(0, model.count(3) - 1));
    }

    private int aFirst() {
        return Math.max(0, Math.min(181, model.count(0) + between(-1, 6)));
    }

    // ---- calls that change something

    private void setUp() {
        int ramps = between(1, 4);
        for (int i = 0; i < ramps; i++) {
            addRamp(between(1700, 2000), between(1, 3), below(3) == 0 ? 10 : between(1, 60));
        }
        for (int week = 0; week < 26; week++) {
            if (below(2) == 0) {
                setRate(week, between(-50, 50));
            }
        }
        int days = below(6) == 0 ? between(150, 181) : 0;
        for (int i = 0; i < days; i++) {
            pass(0);
        }
    }

    private void step() {
        int kind = below(100);
        if (kind < 22) {
            buy();
        } else if (kind < 32) {
            int permit = aPermit();
            int ramp = aRamp();
            due.is("move(" + permit + ", " + ramp + ")", real.move(permit, ramp), model.move(permit, ramp));
        } else if (kind < 36) {
            int permit = aPermit();
            due.is("cancel(" + permit + ")", real.cancel(permit), model.cancel(permit));
        } else if (kind < 40) {
            int permit = aPermit();
            due.is("refund(" + permit + ")", real.refund(permit), model.refund(permit));
        } else if (kind < 55) {
            pass(below(3) == 0 ? arg(-500, 500) : between(-60, 60));
        } else if (kind < 65) {
            launch();
        } else if (kind < 80) {
            settings();
        } else if (kind < 90) {
            snapshots();
        } else {
            program();
        }
    }

    private void buy() {
        int ramp = aRamp();
        int first = arg(aFirst(), aFirst() + 1);
        int last = arg(first, Math.min(181, first + between(0, 30)));
        int draught = arg(0, below(2) == 0 ? 300 : 80);
        due.is("buy(" + ramp + ", " + first + ", " + last + ", " + draught + ")",
            real.buy(ramp, first, last, draught), model.buy(ramp, first, last, draught));
    }

    private void pass(int change) {
        due.is("pass(" + change + ")", real.pass(change), model.pass(change));
    }

    private void launch() {
        int ramp = aRamp();
        int draught = arg(0, below(2) == 0 ? 300 : 80);
        int permit = below(6) == 0 ? -1 : aPermit();
        due.is("launch(" + ramp + ", " + draught + ", " + permit + ")",
            real.launch(ramp, draught, permit), model.launch(ramp, draught, permit));
    }

    private void addRamp(int end, int boats, int fee) {
        due.is("addRamp(" + end + ", " + boats + ", " + fee + ")",
            real.addRamp(end, boats, fee), model.addRamp(end, boats, fee));
    }

    private void setRate(int week, int rate) {
        due.is("setRate(" + week + ", " + rate + ")", real.setRate(week, rate), model.setRate(week, rate));
    }

    private void settings() {
        switch (below(5)) {
            case 0: {
                int level = below(3) == 0 ? arg(0, 5000) : between(1800, 2200);
                due.is("setLevel(" + level + ")", real.setLevel(level), model.setLevel(level));
                break;
            }
            case 1:
                setRate(arg(0, 25), arg(-50, 50));
                break;
            case 2:
                addRamp(below(2) == 0 ? arg(0, 4000) : between(1700, 2000), arg(1, 20), arg(1, 500));
                break;
            case 3: {
                int ramp = aRamp();
                int fee = below(2) == 0 ? arg(1, 500) : between(1, 40);
                due.is("setFee(" + ramp + ", " + fee + ")", real.setFee(ramp, fee), model.setFee(ramp, fee));
                break;
            }
            default: {
                int reason = arg(1, 3);
                int amount = arg(0, 500);
                due.is("setFine(" + reason + ", " + amount + ")", real.setFine(reason, amount),
                    model.setFine(reason, amount));
                break;
            }
        }
    }

    private void snapshots() {
        int slot = arg(0, 1);
        switch (below(5)) {
            case 0:
            case 1:
                due.is("take(" + slot + ")", real.take(slot), model.take(slot));
                break;
            case 2:
                due.is("restore(" + slot + ")", real.restore(slot), model.restore(slot));
                break;
            default:
                due.is("undo()", real.undo(), model.undo());
                break;
        }
    }

    // ---- programs

    private void program() {
        if (below(4) > 0) {
            due.is("clearText()", real.clearText(), model.clearText());
            String text = programText();
            for (int i = 0; i < text.length(); i++) {
                append(text.charAt(i));
            }
        } else {
            append(arg(1, 255));
        }
        due.is("run()", real.run(), model.run());
    }

    private void append(int character) {
        due.is("append(" + character + ")", real.append(character), model.append(character));
    }

    private String programText() {
        StringBuilder text = new StringBuilder();
        int commands = below(8);
        for (int i = 0; i < commands; i++) {
            text.append(spaces(0)).append(commandText());
        }
        text.append(spaces(0));
        if (below(3) == 0) {
            int at = below(text.length() + 1);
            if (below(2) == 0 && at < text.length()) {
                text.deleteCharAt(at);
            }
            if (below(2) == 0) {
                text.insert(at, PIECES[below(PIECES.length)]);
            }
        }
        return text.toString();
    }

    private String spaces(int least) {
        return " ".repeat(least + (below(4) == 0 ? below(3) : 0));
    }

    private String commandText() {
        switch (below(9)) {
            case 0:
                return words("ramp", between(1700, 2000), arg(1, 3), arg(1, 60));
            case 1:
                return words("rate", arg(0, 25), arg(-50, 50));
            case 2:
            case 3: {
                int first = aFirst();
                return words("buy", aRamp(), first, first + below(7), arg(0, 80));
            }
            case 4:
                return words("move", aPermit(), aRamp());
            case 5:
                return words("cancel", aPermit());
            case 6:
                return words("refund", aPermit());
            default:
                return words("pass", arg(-100, 100));
        }
    }

    private String words(String word, int... numbers) {
        StringBuilder text = new StringBuilder(word).append(spaces(0));
        for (int i = 0; i < numbers.length; i++) {
            text.append(i > 0 ? spaces(1) : spaces(0));
            text.append(numbers[i] < 0 ? "-" + spaces(0) : "");
            text.append(Math.abs((long) numbers[i]));
        }
        return text.append(spaces(0)).append(";").toString();
    }

    // ---- calls that only look

    private void compareLooks() {
        for (int what = -1; what <= 14; what++) {
            due.is("count(" + what + ")", real.count(what), model.count(what));
        }
        for (int what = -1; what <= 6; what++) {
            due.is("money(" + what + ")", real.money(what), model.money(what));
            due.is("failure(" + what + ")", real.failure(what), model.failure(what));
        }
        for (int ramp = -1; ramp <= 4; ramp++) {
            for (int what = -1; what <= 6; what++) {
                due.is("ramp(" + ramp + ", " + what + ")", real.ramp(ramp, what), model.ramp(ramp, what));
            }
        }
        for (int permit = -1; permit <= 12; permit++) {
            for (int what = -1; what <= 13; what++) {
                due.is("permit(" + permit + ", " + what + ")", real.permit(permit, what),
                    model.permit(permit, what));
            }
            due.is("part(" + permit + ")", real.part(permit), model.part(permit));
        }
        for (int week = -1; week <= 26; week++) {
            due.is("rate(" + week + ")", real.rate(week), model.rate(week));
        }
    }

    private void compareForecasts() {
        int day = arg(0, 181);
        due.is("forecast(" + day + ")", real.forecast(day), model.forecast(day));
        int near = aFirst();
        due.is("forecast(" + near + ")", real.forecast(near), model.forecast(near));
        int draught = arg(0, 300);
        int ramp = aRamp();
        due.is("closure(" + ramp + ", " + draught + ")", real.closure(ramp, draught),
            model.closure(ramp, draught));
        int last = arg(near, Math.min(181, near + 40));
        due.is("draughtFor(" + ramp + ", " + near + ", " + last + ")", real.draughtFor(ramp, near, last),
            model.draughtFor(ramp, near, last));
        int until = arg(near, Math.min(181, near + 10));
        due.is("bestRamp(" + near + ", " + until + ", " + draught + ")", real.bestRamp(near, until, draught),
            model.bestRamp(near, until, draught));
        int permit = aPermit();
        int what = arg(0, 1);
        due.is("expected(" + permit + ", " + what + ")", real.expected(permit, what),
            model.expected(permit, what));
        int level = arg(0, 5000);
        due.is("volume(" + level + ")", real.volume(level), model.volume(level));
    }
}
