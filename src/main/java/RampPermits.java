/**
 * Permits for pleasure boats on a reservoir that is drawn down: its level, ramps, permits and
 * their money, fines, snapshots, undo, and programs that are run from a text.
 */
public final class RampPermits {

    public static final int INVALID_ARGUMENT = -100001;
    public static final int ILLEGAL_STATE = -100002;
    public static final int CAPACITY_EXCEEDED = -100003;
    public static final int NONE = -100009;

    private static final int LAST_DAY = 181;
    private static final int DAYS_OF_WEEK = 7;
    private static final int WEEKS = 26;
    private static final int FIRST_LEVEL = 2000;
    private static final int MAX_LEVEL = 5000;
    private static final int MAX_RATE = 50;
    private static final int MAX_CHANGE = 500;

    private static final int MAX_RAMPS = 4;
    private static final int MAX_END = 4000;
    private static final int MAX_BOATS = 20;
    private static final int MAX_FEE = 500;

    private static final int MAX_PERMITS = 12;
    private static final int NO_PERMIT = -1;
    private static final int MAX_DAYS_LATER = 29;
    private static final int MAX_DRAUGHT = 300;

    private static final int NO_REASON = 0;
    private static final int RAMP_CLOSED = 1;
    private static final int NO_RIGHT = 2;
    private static final int TOO_DEEP = 3;
    private static final int REASONS = 3;
    private static final int MAX_FINE = 500;

    private static final int SLOTS = 2;
    private static final int MAX_HISTORY = 5;

    private static final int MAX_TEXT = 140;
    private static final int MAX_CHARACTER = 255;
    private static final int MAX_DIGITS = 4;
    private static final int MAX_NUMBERS = 4;
    private static final int NO_NUMBER = -1;
    private static final int NO_SIGN = -1;
    private static final int LETTER = 1;
    private static final int DIGIT = 2;
    private static final int OTHER = 3;

    private static final int NO_FAILURE = 0;
    private static final int WRONG_TOKEN = 1;
    private static final int INVALID_CALL = 2;
    private static final int REFUSED_CALL = 3;
    private static final int FAILURE_PARTS = 5;
    private static final int FAILURE_BASE = -1000;

    private final State state = new State();
    private final History history = new History();
    private final Program program = new Program();

    public RampPermits() {
    }

    // ---- level and ramps

    public int setLevel(int level) {
        history.prepare(state);
        return finishAction(state.now.changeLevel(level));
    }

    public int setRate(int week, int rate) {
        history.prepare(state);
        return finishAction(state.now.changeRate(week, rate));
    }

    public int addRamp(int end, int boats, int fee) {
        history.prepare(state);
        return finishAction(state.now.openRamp(end, boats, fee));
    }

    public int setFee(int ramp, int fee) {
        history.prepare(state);
        return finishAction(state.now.changeFee(ramp, fee));
    }

    public int setFine(int reason, int amount) {
        history.prepare(state);
        return finishAction(state.now.fines.changeAmount(reason, amount));
    }

    // ---- permits

    public int buy(int ramp, int first, int last, int draught) {
        history.prepare(state);
        return finishAction(state.now.sellPermit(ramp, first, last, draught));
    }

    public int move(int permit, int ramp) {
        history.prepare(state);
        return finishAction(state.now.movePermit(permit, ramp));
    }

    public int cancel(int permit) {
        history.prepare(state);
        return finishAction(state.now.cancelPermit(permit));
    }

    public int refund(int permit) {
        history.prepare(state);
        return finishAction(state.now.refundPermit(permit));
    }

    public int pass(int change) {
        history.prepare(state);
        return finishAction(state.now.passDay(change));
    }

    public int launch(int ramp, int draught, int permit) {
        history.prepare(state);
        return finishAction(state.now.launchBoat(ramp, draught, permit));
    }

    // ---- snapshots

    public int take(int slot) {
        history.prepare(state);
        return finishAction(state.takeSnapshot(slot));
    }

    public int restore(int slot) {
        history.prepare(state);
        return finishAction(state.restoreSnapshot(slot));
    }

    public int undo() {
        if (history.size == 0) {
            return ILLEGAL_STATE;
        }
        history.dropLatest();
        state.copyFrom(history.prepared());
        return history.size;
    }

    // ---- programs

    public int append(int character) {
        if (!isWithin(character, 1, MAX_CHARACTER)) {
            return INVALID_ARGUMENT;
        }
        return program.text.add((char) character);
    }

    public int clearText() {
        return program.text.empty();
    }

    public int run() {
        history.prepare(state);
        int answer = program.carryOut(state.now);
        if (answer < 0) {
            state.copyFrom(history.prepared());
        } else {
            history.keep();
            program.text.empty();
        }
        return answer;
    }

    public int failure(int what) {
        if (!isWithin(what, 0, FAILURE_PARTS - 1)) {
            return INVALID_ARGUMENT;
        }
        return program.failurePart(what);
    }

    // ---- looking

    public int count(int what) {
        Season now = state.now;
        switch (what) {
            case 0:
                return now.water.today;
            case 1:
                return now.water.level;
            case 2:
                return now.rampCount;
            case 3:
                return now.permitCount;
            case 4:
                return now.permitsToCome();
            case 5:
                return state.snapshots();
            case 6:
                return history.size;
            case 7:
                return program.text.length;
            case 8:
            case 9:
            case 10:
                return now.fines.amountFor(what - 7);
            case 11:
            case 12:
            case 13:
                return now.fines.timesFor(what - 10);
            default:
                return INVALID_ARGUMENT;
        }
    }

    public int ramp(int ramp, int what) {
        Season now = state.now;
        if (!now.hasRamp(ramp)) {
            return INVALID_ARGUMENT;
        }
        Ramp asked = now.ramps[ramp];
        switch (what) {
            case 0:
                return asked.end;
            case 1:
                return asked.boats;
            case 2:
                return asked.fee;
            case 3:
                return now.permitsToComeFor(ramp);
            case 4:
                return now.permitsOn(ramp, now.water.today);
            case 5:
                return asked.greatestDraught(now.water.level);
            default:
                return INVALID_ARGUMENT;
        }
    }

    public int permit(int permit, int what) {
        Season now = state.now;
        if (!now.hasPermit(permit)) {
            return INVALID_ARGUMENT;
        }
        return now.permits[permit].property(what, now.water.today);
    }

    public int money(int what) {
        switch (what) {
            case 0:
                return state.now.sumOf(Permit.PAID);
            case 1:
                return state.now.sumOf(Permit.KEPT);
            case 2:
                return state.now.sumOf(Permit.OWED);
            case 3:
                return state.now.sumOf(Permit.REFUNDED);
            case 4:
                return state.now.feesToCome();
            case 5:
                return state.now.fines.total;
            default:
                return INVALID_ARGUMENT;
        }
    }

    public int rate(int week) {
        return isWithin(week, 0, WEEKS - 1) ? state.now.water.rates[week] : INVALID_ARGUMENT;
    }

    // ---- forecasts, which change nothing

    public int forecast(int day) {
        Water water = state.now.water;
        if (!isWithin(day, 0, LAST_DAY)) {
            return INVALID_ARGUMENT;
        }
        if (day < water.today) {
            return ILLEGAL_STATE;
        }
        return water.lowestForecast(day, day);
    }

    public int closure(int ramp, int draught) {
        if (!state.now.hasRamp(ramp) || !isWithin(draught, 0, MAX_DRAUGHT)) {
            return INVALID_ARGUMENT;
        }
        return state.now.firstClosedDay(ramp, draught);
    }

    public int draughtFor(int ramp, int first, int last) {
        Season now = state.now;
        if (!now.hasRamp(ramp) || !isWithin(first, 0, LAST_DAY) || !isWithin(last, first, LAST_DAY)) {
            return INVALID_ARGUMENT;
        }
        if (first < now.water.today) {
            return ILLEGAL_STATE;
        }
        return now.ramps[ramp].greatestDraught(now.water.lowestForecast(first, last));
    }

    public int bestRamp(int first, int last, int draught) {
        if (!isPermitSpan(first, last) || !isWithin(draught, 0, MAX_DRAUGHT)) {
            return INVALID_ARGUMENT;
        }
        if (first < state.now.water.today) {
            return ILLEGAL_STATE;
        }
        return state.now.cheapestRamp(first, last, draught);
    }

    public int expected(int permit, int what) {
        Season now = state.now;
        if (!now.hasPermit(permit) || !isWithin(what, 0, 1)) {
            return INVALID_ARGUMENT;
        }
        Permit asked = now.permits[permit];
        int closed = now.closedDays(asked);
        return what == 0 ? closed : asked.owed + closed * asked.fee;
    }

    public int part(int permit) {
        if (!state.now.hasPermit(permit)) {
            return INVALID_ARGUMENT;
        }
        return state.now.permits[permit].partUsed();
    }

    public int volume(int level) {
        if (!isWithin(level, 0, MAX_LEVEL)) {
            return INVALID_ARGUMENT;
        }
        double height = level;
        return (int) (height * height * 0.75 + 12.5 * height);
    }

    /** Puts the state that was prepared into the history, if the action did not fail. */
    private int finishAction(int answer) {
        if (!isError(answer)) {
            history.keep();
        }
        return answer;
    }

    private static boolean isWithin(int value, int low, int high) {
        return value >= low && value <= high;
    }

    private static boolean isPermitSpan(int first, int last) {
        return isWithin(first, 0, LAST_DAY) && isWithin(last, first, LAST_DAY)
                && last - first <= MAX_DAYS_LATER;
    }

    // An answer below 0 need not be an error: rates and differences of fees are answers too.
    private static boolean isError(int answer) {
        return answer == INVALID_ARGUMENT || answer == ILLEGAL_STATE || answer == CAPACITY_EXCEEDED;
    }

    /** The day, the level and its rates. */
    private static final class Water {
        int today;
        int level = FIRST_LEVEL;
        final int[] rates = new int[WEEKS];

        void copyFrom(Water other) {
            today = other.today;
            level = other.level;
            System.arraycopy(other.rates, 0, rates, 0, WEEKS);
        }

        int rateOn(int day) {
            int week = day / DAYS_OF_WEEK;
            return week >= 0 && week < WEEKS ? rates[week] : 0;
        }

        /** The lowest forecast level from one day to another, neither before today. */
        int lowestForecast(int first, int last) {
            int lowest = MAX_LEVEL;
            int forecast = level;
            for (int day = today; day <= last; day++) {
                if (day >= first && forecast < lowest) {
                    lowest = forecast;
                }
                forecast = bounded(forecast + rateOn(day));
            }
            return lowest;
        }

        void nextDay(int change) {
            level = bounded(level + change);
            today++;
        }

        static int bounded(int level) {
            return level < 0 ? 0 : level > MAX_LEVEL ? MAX_LEVEL : level;
        }
    }

    private static final class Ramp {
        int end;
        int boats;
        int fee;

        void copyFrom(Ramp other) {
            end = other.end;
            boats = other.boats;
            fee = other.fee;
        }

        boolean isOpen(int level, int draught) {
            return level - end >= draught;
        }

        int greatestDraught(int level) {
            int depth = level - end;
            return depth < 0 ? NONE : depth > MAX_DRAUGHT ? MAX_DRAUGHT : depth;
        }
    }

    private static final class Permit {
        // What permit() calls the amounts.
        static final int PAID = 5;
        static final int KEPT = 6;
        static final int OWED = 7;
        static final int REFUNDED = 8;

        int ramp;
        int first;
        int last;
        int draught;
        int fee;
        int paid;
        int kept;
        int owed;
        int refunded;
        int used;
        int lost;
        boolean cancelled;

        void copyFrom(Permit other) {
            ramp = other.ramp;
            first = other.first;
            last = other.last;
            draught = other.draught;
            fee = other.fee;
            paid = other.paid;
            kept = other.kept;
            owed = other.owed;
            refunded = other.refunded;
            used = other.used;
            lost = other.lost;
            cancelled = other.cancelled;
        }

        // The row may still hold what an undone permit left, so all of it is set.
        void begin(int newRamp, int newFee, int newFirst, int newLast, int newDraught) {
            ramp = newRamp;
            first = newFirst;
            last = newLast;
            draught = newDraught;
            fee = newFee;
            paid = newFee * (newLast - newFirst + 1);
            kept = 0;
            owed = 0;
            refunded = 0;
            used = 0;
            lost = 0;
            cancelled = false;
        }

        int daysToCome(int today) {
            int from = first > today ? first : today;
            return cancelled || from > last ? 0 : last - from + 1;
        }

        boolean comesOn(int day, int today) {
            return !cancelled && day >= today && day >= first && day <= last;
        }

        int moveTo(int newRamp, int newFee, int days) {
            int difference = (newFee - fee) * days;
            if (difference > 0) {
                paid += difference;
            } else {
                owed -= difference;
            }
            ramp = newRamp;
            fee = newFee;
            return difference;
        }

        int cancelDays(int open, int closed) {
            int half = fee / 2;
            int owedNow = closed * fee + open * half;
            owed += owedNow;
            kept += open * (fee - half);
            cancelled = true;
            return owedNow;
        }

        int refundAll() {
            int amount = owed;
            refunded += amount;
            owed = 0;
            return amount;
        }

        void useDay() {
            used++;
            kept += fee;
        }

        void loseDay() {
            lost++;
            owed += fee;
        }

        int partUsed() {
            int passed = used + lost;
            if (passed <= 0) {
                return NONE;
            }
            return (int) (1000f * used / passed);
        }

        int property(int what, int today) {
            switch (what) {
                case 0:
                    return ramp;
                case 1:
                    return first;
                case 2:
                    return last;
                case 3:
                    return draught;
                case 4:
                    return fee;
                case PAID:
                    return paid;
                case KEPT:
                    return kept;
                case OWED:
                    return owed;
                case REFUNDED:
                    return refunded;
                case 9:
                    return used;
                case 10:
                    return lost;
                case 11:
                    return daysToCome(today);
                case 12:
                    return cancelled ? 1 : 0;
                default:
                    return INVALID_ARGUMENT;
            }
        }
    }

    /** The amounts of fines and what was fined; row 0 is for reason 1. */
    private static final class Fines {
        final int[] amounts = {40, 60, 20};
        final int[] times = new int[REASONS];
        int total;

        void copyFrom(Fines other) {
            System.arraycopy(other.amounts, 0, amounts, 0, REASONS);
            System.arraycopy(other.times, 0, times, 0, REASONS);
            total = other.total;
        }

        int amountFor(int reason) {
            return isWithin(reason, 1, REASONS) ? amounts[reason - 1] : 0;
        }

        int timesFor(int reason) {
            return isWithin(reason, 1, REASONS) ? times[reason - 1] : 0;
        }

        int changeAmount(int reason, int amount) {
            if (!isWithin(reason, 1, REASONS) || !isWithin(amount, 0, MAX_FINE)) {
                return INVALID_ARGUMENT;
            }
            int previous = amounts[reason - 1];
            amounts[reason - 1] = amount;
            return previous;
        }

        int impose(int reason) {
            if (!isWithin(reason, 1, REASONS)) {
                return 0;
            }
            times[reason - 1]++;
            total += amounts[reason - 1];
            return amounts[reason - 1];
        }
    }

    /**
     * All that a snapshot keeps. The methods that change it check their arguments, and answer as
     * the calls of the face do, since programs call them too.
     */
    private static final class Season {
        final Water water = new Water();
        final Fines fines = new Fines();
        final Ramp[] ramps = new Ramp[MAX_RAMPS];
        final Permit[] permits = new Permit[MAX_PERMITS];
        int rampCount;
        int permitCount;

        Season() {
            for (int i = 0; i < MAX_RAMPS; i++) {
                ramps[i] = new Ramp();
            }
            for (int i = 0; i < MAX_PERMITS; i++) {
                permits[i] = new Permit();
            }
        }

        void copyFrom(Season other) {
            water.copyFrom(other.water);
            fines.copyFrom(other.fines);
            rampCount = other.rampCount;
            for (int i = 0; i < rampCount; i++) {
                ramps[i].copyFrom(other.ramps[i]);
            }
            permitCount = other.permitCount;
            for (int i = 0; i < permitCount; i++) {
                permits[i].copyFrom(other.permits[i]);
            }
        }

        boolean hasRamp(int number) {
            return number >= 0 && number < rampCount;
        }

        boolean hasPermit(int number) {
            return number >= 0 && number < permitCount;
        }

        int changeLevel(int level) {
            if (!isWithin(level, 0, MAX_LEVEL)) {
                return INVALID_ARGUMENT;
            }
            int previous = water.level;
            water.level = level;
            return previous;
        }

        int changeRate(int week, int rate) {
            if (!isWithin(week, 0, WEEKS - 1) || !isWithin(rate, -MAX_RATE, MAX_RATE)) {
                return INVALID_ARGUMENT;
            }
            int previous = water.rates[week];
            water.rates[week] = rate;
            return previous;
        }

        int openRamp(int end, int boats, int fee) {
            if (!isWithin(end, 0, MAX_END) || !isWithin(boats, 1, MAX_BOATS)
                    || !isWithin(fee, 1, MAX_FEE)) {
                return INVALID_ARGUMENT;
            }
            if (rampCount >= MAX_RAMPS) {
                return CAPACITY_EXCEEDED;
            }
            Ramp added = ramps[rampCount];
            added.end = end;
            added.boats = boats;
            added.fee = fee;
            rampCount++;
            return rampCount - 1;
        }

        int changeFee(int ramp, int fee) {
            if (!hasRamp(ramp) || !isWithin(fee, 1, MAX_FEE)) {
                return INVALID_ARGUMENT;
            }
            int previous = ramps[ramp].fee;
            ramps[ramp].fee = fee;
            return previous;
        }

        int sellPermit(int ramp, int first, int last, int draught) {
            if (!hasRamp(ramp) || !isPermitSpan(first, last) || !isWithin(draught, 0, MAX_DRAUGHT)) {
                return INVALID_ARGUMENT;
            }
            if (first < water.today || !fits(ramp, first, last, draught)) {
                return ILLEGAL_STATE;
            }
            if (permitCount >= MAX_PERMITS) {
                return CAPACITY_EXCEEDED;
            }
            permits[permitCount].begin(ramp, ramps[ramp].fee, first, last, draught);
            permitCount++;
            return permitCount - 1;
        }

        int movePermit(int number, int ramp) {
            if (!hasPermit(number) || !hasRamp(ramp)) {
                return INVALID_ARGUMENT;
            }
            Permit permit = permits[number];
            int days = permit.daysToCome(water.today);
            if (days == 0 || permit.ramp == ramp
                    || !fits(ramp, permit.last - days + 1, permit.last, permit.draught)) {
                return ILLEGAL_STATE;
            }
            return permit.moveTo(ramp, ramps[ramp].fee, days);
        }

        int cancelPermit(int number) {
            if (!hasPermit(number)) {
                return INVALID_ARGUMENT;
            }
            Permit permit = permits[number];
            int days = permit.daysToCome(water.today);
            if (days == 0) {
                return ILLEGAL_STATE;
            }
            int closed = closedDays(permit);
            return permit.cancelDays(days - closed, closed);
        }

        int refundPermit(int number) {
            if (!hasPermit(number)) {
                return INVALID_ARGUMENT;
            }
            return permits[number].owed == 0 ? ILLEGAL_STATE : permits[number].refundAll();
        }

        int passDay(int change) {
            if (!isWithin(change, -MAX_CHANGE, MAX_CHANGE)) {
                return INVALID_ARGUMENT;
            }
            if (water.today >= LAST_DAY) {
                return ILLEGAL_STATE;
            }
            int lostDays = 0;
            for (int i = 0; i < permitCount; i++) {
                Permit permit = permits[i];
                if (permit.comesOn(water.today, water.today)) {
                    if (isOpenFor(permit, water.level)) {
                        permit.useDay();
                    } else {
                        permit.loseDay();
                        lostDays++;
                    }
                }
            }
            water.nextDay(change);
            return lostDays;
        }

        int launchBoat(int ramp, int draught, int number) {
            if (!hasRamp(ramp) || !isWithin(draught, 0, MAX_DRAUGHT)
                    || number != NO_PERMIT && !hasPermit(number)) {
                return INVALID_ARGUMENT;
            }
            return fines.impose(reasonToFine(ramps[ramp], ramp, draught, number));
        }

        int reasonToFine(Ramp ramp, int rampNumber, int draught, int number) {
            if (!ramp.isOpen(water.level, draught)) {
                return RAMP_CLOSED;
            }
            if (!hasPermit(number)) {
                return NO_RIGHT;
            }
            Permit permit = permits[number];
            if (permit.ramp != rampNumber || !permit.comesOn(water.today, water.today)) {
                return NO_RIGHT;
            }
            return draught > permit.draught ? TOO_DEEP : NO_REASON;
        }

        boolean isOpenFor(Permit permit, int level) {
            return hasRamp(permit.ramp) && ramps[permit.ramp].isOpen(level, permit.draught);
        }

        /**
         * Whether a permit that is not for this ramp yet fits on it for days of which none is
         * before today.
         */
        boolean fits(int ramp, int first, int last, int draught) {
            if (!hasRamp(ramp) || !ramps[ramp].isOpen(water.lowestForecast(first, last), draught)) {
                return false;
            }
            for (int day = first; day <= last; day++) {
                if (permitsOn(ramp, day) >= ramps[ramp].boats) {
                    return false;
                }
            }
            return true;
        }

        int permitsOn(int ramp, int day) {
            int found = 0;
            for (int i = 0; i < permitCount; i++) {
                if (permits[i].ramp == ramp && permits[i].comesOn(day, water.today)) {
                    found++;
                }
            }
            return found;
        }

        int permitsToComeFor(int ramp) {
            int found = 0;
            for (int i = 0; i < permitCount; i++) {
                if (permits[i].ramp == ramp && permits[i].daysToCome(water.today) > 0) {
                    found++;
                }
            }
            return found;
        }

        int permitsToCome() {
            int found = 0;
            for (int i = 0; i < rampCount; i++) {
                found += permitsToComeFor(i);
            }
            return found;
        }

        /** The sum of an amount over all permits, by its number as a property of a permit. */
        int sumOf(int amount) {
            int sum = 0;
            for (int i = 0; i < permitCount; i++) {
                sum += permits[i].property(amount, water.today);
            }
            return sum;
        }

        int feesToCome() {
            int sum = 0;
            for (int i = 0; i < permitCount; i++) {
                sum += permits[i].fee * permits[i].daysToCome(water.today);
            }
            return sum;
        }

        /** How many of a permit's days to come are closed for it at the forecast levels. */
        int closedDays(Permit permit) {
            int closed = 0;
            int forecast = water.level;
            for (int day = water.today; day <= permit.last; day++) {
                if (permit.comesOn(day, water.today) && !isOpenFor(permit, forecast)) {
                    closed++;
                }
                forecast = Water.bounded(forecast + water.rateOn(day));
            }
            return closed;
        }

        int firstClosedDay(int ramp, int draught) {
            int forecast = water.level;
            for (int day = water.today; day <= LAST_DAY; day++) {
                if (!hasRamp(ramp) || !ramps[ramp].isOpen(forecast, draught)) {
                    return day;
                }
                forecast = Water.bounded(forecast + water.rateOn(day));
            }
            return NONE;
        }

        int cheapestRamp(int first, int last, int draught) {
            int best = NONE;
            int smallestFee = MAX_FEE + 1;
            for (int i = 0; i < rampCount; i++) {
                if (ramps[i].fee < smallestFee && fits(i, first, last, draught)) {
                    best = i;
                    smallestFee = ramps[i].fee;
                }
            }
            return best;
        }
    }

    /** What undo() restores: the season as it is now, and the snapshots. */
    private static final class State {
        final Season now = new Season();
        final Season[] slots = new Season[SLOTS];
        final boolean[] taken = new boolean[SLOTS];

        State() {
            for (int i = 0; i < SLOTS; i++) {
                slots[i] = new Season();
            }
        }

        void copyFrom(State other) {
            now.copyFrom(other.now);
            for (int i = 0; i < SLOTS; i++) {
                taken[i] = other.taken[i];
                if (taken[i]) {
                    slots[i].copyFrom(other.slots[i]);
                }
            }
        }

        int takeSnapshot(int slot) {
            if (!isWithin(slot, 0, SLOTS - 1)) {
                return INVALID_ARGUMENT;
            }
            slots[slot].copyFrom(now);
            taken[slot] = true;
            return now.water.today;
        }

        int restoreSnapshot(int slot) {
            if (!isWithin(slot, 0, SLOTS - 1)) {
                return INVALID_ARGUMENT;
            }
            if (!taken[slot]) {
                return ILLEGAL_STATE;
            }
            now.copyFrom(slots[slot]);
            return now.water.today;
        }

        int snapshots() {
            int found = 0;
            for (int i = 0; i < SLOTS; i++) {
                if (taken[i]) {
                    found++;
                }
            }
            return found;
        }
    }

    /**
     * The states before the latest actions, in a ring. It has one row more than it keeps states,
     * so that a state can be prepared before it is known whether the oldest one is dropped for it.
     */
    private static final class History {
        final State[] rows = new State[MAX_HISTORY + 1];
        int next;
        int size;

        History() {
            for (int i = 0; i <= MAX_HISTORY; i++) {
                rows[i] = new State();
            }
        }

        void prepare(State state) {
            prepared().copyFrom(state);
        }

        // The ring is never left; the row's number is looked at all the same, as LANGUAGE.md asks.
        State prepared() {
            return rows[isWithin(next, 0, MAX_HISTORY) ? next : 0];
        }

        void keep() {
            next = next >= MAX_HISTORY ? 0 : next + 1;
            if (size < MAX_HISTORY) {
                size++;
            }
        }

        /** Takes the latest state out; it is the prepared one then. */
        void dropLatest() {
            next = next <= 0 ? MAX_HISTORY : next - 1;
            size--;
        }
    }

    /** The text, and the token from start to end in it, which is empty behind the last one. */
    private static final class Text {
        final char[] characters = new char[MAX_TEXT];
        int length;
        int start;
        int end;

        int add(char character) {
            if (length >= MAX_TEXT) {
                return CAPACITY_EXCEEDED;
            }
            characters[length] = character;
            length++;
            return length;
        }

        int empty() {
            int previous = length;
            length = 0;
            return previous;
        }

        void rewind() {
            end = 0;
            advance();
        }

        void advance() {
            start = end;
            while (start < length && characters[start] == ' ') {
                start++;
            }
            end = start < length ? start + 1 : length;
            int kind = kindAt(start);
            while (kind != OTHER && end < length && kindAt(end) == kind) {
                end++;
            }
        }

        boolean isAtEnd() {
            return start >= length;
        }

        int kindAt(int offset) {
            if (offset < 0 || offset >= length) {
                return OTHER;
            }
            char character = characters[offset];
            if (character >= 'a' && character <= 'z') {
                return LETTER;
            }
            return character >= '0' && character <= '9' ? DIGIT : OTHER;
        }

        boolean isToken(String token) {
            if (end > length || end - start != token.length()) {
                return false;
            }
            for (int i = 0; i < token.length(); i++) {
                if (characters[start + i] != token.charAt(i)) {
                    return false;
                }
            }
            return true;
        }

        /** The token as a number, or NO_NUMBER if it is none. */
        int number() {
            int digits = end - start;
            if (kindAt(start) != DIGIT || digits > MAX_DIGITS
                    || digits > 1 && characters[start] == '0') {
                return NO_NUMBER;
            }
            int value = 0;
            for (int i = start; i < end && i < length; i++) {
                value = value * 10 + characters[i] - '0';
            }
            return value;
        }
    }

    /** The commands: the word, how many numbers follow it, and which one may have a sign. */
    private enum Command {
        RAMP("ramp", 3, NO_SIGN),
        RATE("rate", 2, 1),
        BUY("buy", 4, NO_SIGN),
        MOVE("move", 2, NO_SIGN),
        CANCEL("cancel", 1, NO_SIGN),
        REFUND("refund", 1, NO_SIGN),
        PASS("pass", 1, 0);

        private static final Command[] ALL = values();

        final String word;
        final int numbers;
        final int signed;

        Command(String word, int numbers, int signed) {
            this.word = word;
            this.numbers = numbers;
            this.signed = signed;
        }
    }

    /** Reads and runs the text, and keeps the latest failure. */
    private static final class Program {
        final Text text = new Text();
        final int[] numbers = new int[MAX_NUMBERS];
        int failureKind = NO_FAILURE;
        int failurePlace;
        int failureCause;
        int commandsBefore;

        /** Runs the commands and answers as run(); what they did before a failure is not undone. */
        int carryOut(Season season) {
            int commands = 0;
            text.rewind();
            while (commands < MAX_TEXT && !text.isAtEnd()) {
                int place = text.start;
                Command command = readCommand();
                if (command == null) {
                    return fail(WRONG_TOKEN, text.start, NONE, commands);
                }
                int answer = perform(command, season);
                if (isError(answer)) {
                    int kind = answer == INVALID_ARGUMENT ? INVALID_CALL : REFUSED_CALL;
                    return fail(kind, place, answer, commands);
                }
                commands++;
            }
            return commands;
        }

        int fail(int kind, int place, int cause, int commands) {
            failureKind = kind;
            failurePlace = place;
            failureCause = cause;
            commandsBefore = commands;
            return FAILURE_BASE - place;
        }

        /** Reads a command and its numbers; null if a token is not allowed, at which it stops. */
        Command readCommand() {
            Command command = commandAhead();
            if (command == null) {
                return null;
            }
            text.advance();
            for (int i = 0; i < command.numbers && i < MAX_NUMBERS; i++) {
                boolean negative = i == command.signed && text.isToken("-");
                if (negative) {
                    text.advance();
                }
                int value = text.number();
                if (value == NO_NUMBER) {
                    return null;
                }
                numbers[i] = negative ? -value : value;
                text.advance();
            }
            if (!text.isToken(";")) {
                return null;
            }
            text.advance();
            return command;
        }

        Command commandAhead() {
            for (int i = 0; i < Command.ALL.length; i++) {
                if (text.isToken(Command.ALL[i].word)) {
                    return Command.ALL[i];
                }
            }
            return null;
        }

        int perform(Command command, Season season) {
            switch (command) {
                case RAMP:
                    return season.openRamp(numbers[0], numbers[1], numbers[2]);
                case RATE:
                    return season.changeRate(numbers[0], numbers[1]);
                case BUY:
                    return season.sellPermit(numbers[0], numbers[1], numbers[2], numbers[3]);
                case MOVE:
                    return season.movePermit(numbers[0], numbers[1]);
                case CANCEL:
                    return season.cancelPermit(numbers[0]);
                case REFUND:
                    return season.refundPermit(numbers[0]);
                default:
                    return season.passDay(numbers[0]);
            }
        }

        int failurePart(int what) {
            if (failureKind == NO_FAILURE) {
                return NONE;
            }
            switch (what) {
                case 0:
                    return failureKind;
                case 1:
                    return failurePlace;
                case 2:
                    return failureKind == WRONG_TOKEN ? 1 : 2;
                case 3:
                    return failureCause;
                default:
                    return commandsBefore;
            }
        }
    }
}
