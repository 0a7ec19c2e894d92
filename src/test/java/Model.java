import java.util.ArrayDeque;
import java.util.ArrayList;
import java.util.Deque;
import java.util.List;
import java.util.regex.Matcher;
import java.util.regex.Pattern;

/**
 * The document once more, written to be compared with the program and built differently: days of
 * permits are held one by one, forecasts are made day by day from the start, states are copied
 * whole, errors are exceptions, and programs are cut into tokens by patterns.
 */
final class Model {
    static final int INVALID = -100001;
    static final int ILLEGAL = -100002;
    static final int FULL = -100003;
    static final int NONE = -100009;

    /** A call that answers an error code, or NONE. */
    static final class Refused extends Exception {
        private static final long serialVersionUID = 1L;
        final int code;

        Refused(int code) {
            super(null, null, false, false);
            this.code = code;
        }
    }

    /** Something that answers a number or is refused. */
    interface Act {
        int go() throws Refused;
    }

    enum Fate { TO_COME, USED, LOST, CANCELLED }

    static final class Ramp {
        int end;
        int boats;
        int fee;

        Ramp copy() {
            Ramp c = new Ramp();
            c.end = end;
            c.boats = boats;
            c.fee = fee;
            return c;
        }

        boolean closed(int level, int draught) {
            return level - end < draught;
        }
    }

    static final class Permit {
        int ramp;
        int first;
        int draught;
        int fee;
        int paid;
        int kept;
        int owed;
        int refunded;
        List<Fate> days = new ArrayList<>();

        Permit copy() {
            Permit c = new Permit();
            c.ramp = ramp;
            c.first = first;
            c.draught = draught;
            c.fee = fee;
            c.paid = paid;
            c.kept = kept;
            c.owed = owed;
            c.refunded = refunded;
            c.days = new ArrayList<>(days);
            return c;
        }

        int number(Fate fate) {
            int n = 0;
            for (Fate f : days) {
                if (f == fate) {
                    n++;
                }
            }
            return n;
        }

        boolean comesOn(int day) {
            int i = day - first;
            return i >= 0 && i < days.size() && days.get(i) == Fate.TO_COME;
        }

        List<Integer> toCome() {
            List<Integer> found = new ArrayList<>();
            for (int i = 0; i < days.size(); i++) {
                if (days.get(i) == Fate.TO_COME) {
                    found.add(first + i);
                }
            }
            return found;
        }
    }

    static final class Season {
        int today;
        int level = 2000;
        int[] rates = new int[26];
        List<Ramp> ramps = new ArrayList<>();
        List<Permit> permits = new ArrayList<>();
        int[] amounts = {0, 40, 60, 20};
        int[] times = new int[4];
        int fines;

        Season copy() {
            Season c = new Season();
            c.today = today;
            c.level = level;
            c.rates = rates.clone();
            for (Ramp r : ramps) {
                c.ramps.add(r.copy());
            }
            for (Permit p : permits) {
                c.permits.add(p.copy());
            }
            c.amounts = amounts.clone();
            c.times = times.clone();
            c.fines = fines;
            return c;
        }

        int forecast(int day) {
            int l = level;
            for (int d = today + 1; d <= day; d++) {
                l += rates[(d - 1) / 7];
                l = Math.min(Math.max(l, 0), 5000);
            }
            return l;
        }
    }

    private Season s = new Season();
    private Season[] slots = new Season[2];
    private final Deque<Object[]> history = new ArrayDeque<>();
    private String text = "";
    private int[] failure;

    // ---- helpers

    private static void need(boolean holds, int otherwise) throws Refused {
        if (!holds) {
            throw new Refused(otherwise);
        }
    }

    private static void range(int value, int low, int high) throws Refused {
        need(low <= value && value <= high, INVALID);
    }

    private Ramp ramp(int number) throws Refused {
        range(number, 0, s.ramps.size() - 1);
        return s.ramps.get(number);
    }

    private Permit permitOf(int number) throws Refused {
        range(number, 0, s.permits.size() - 1);
        return s.permits.get(number);
    }

    private Object[] snapshot() {
        return new Object[] {s.copy(), slots[0], slots[1]};
    }

    private void goBack(Object[] to) {
        s = (Season) to[0];
        slots = new Season[] {(Season) to[1], (Season) to[2]};
    }

    private int action(Act act) {
        Object[] before = snapshot();
        try {
            int answer = act.go();
            remember(before);
            return answer;
        } catch (Refused refused) {
            goBack(before);
            return refused.code;
        }
    }

    private void remember(Object[] before) {
        history.addLast(before);
        if (history.size() > 5) {
            history.removeFirst();
        }
    }

    private static int look(Act act) {
        try {
            return act.go();
        } catch (Refused refused) {
            return refused.code;
        }
    }

    private boolean fits(int rampNumber, Permit self, List<Integer> days, int draught) {
        Ramp r = s.ramps.get(rampNumber);
        for (int day : days) {
            if (r.closed(s.forecast(day), draught)) {
                return false;
            }
            int others = 0;
            for (Permit p : s.permits) {
                if (p != self && p.ramp == rampNumber && p.comesOn(day)) {
                    others++;
                }
            }
            if (others >= r.boats) {
                return false;
            }
        }
        return true;
    }

    private static List<Integer> span(int first, int last) {
        List<Integer> days = new ArrayList<>();
        for (int d = first; d <= last; d++) {
            days.add(d);
        }
        return days;
    }

    // ---- what actions do

    private int doSetRate(int week, int rate) throws Refused {
        range(week, 0, 25);
        range(rate, -50, 50);
        int before = s.rates[week];
        s.rates[week] = rate;
        return before;
    }

    private int doAddRamp(int end, int boats, int fee) throws Refused {
        range(end, 0, 4000);
        range(boats, 1, 20);
        range(fee, 1, 500);
        need(s.ramps.size() < 4, FULL);
        Ramp r = new Ramp();
        r.end = end;
        r.boats = boats;
        r.fee = fee;
        s.ramps.add(r);
        return s.ramps.size() - 1;
    }

    private int doBuy(int rampNumber, int first, int last, int draught) throws Refused {
        Ramp r = ramp(rampNumber);
        range(first, 0, 181);
        range(last, first, Math.min(181, first + 29));
        range(draught, 0, 300);
        need(first >= s.today, ILLEGAL);
        need(fits(rampNumber, null, span(first, last), draught), ILLEGAL);
        need(s.permits.size() < 12, FULL);
        Permit p = new Permit();
        p.ramp = rampNumber;
        p.first = first;
        p.draught = draught;
        p.fee = r.fee;
        for (int d = first; d <= last; d++) {
            p.days.add(Fate.TO_COME);
            p.paid += r.fee;
        }
        s.permits.add(p);
        return s.permits.size() - 1;
    }

    private int doMove(int permit, int rampNumber) throws Refused {
        Permit p = permitOf(permit);
        Ramp r = ramp(rampNumber);
        List<Integer> days = p.toCome();
        need(!days.isEmpty(), ILLEGAL);
        need(p.ramp != rampNumber, ILLEGAL);
        need(fits(rampNumber, p, days, p.draught), ILLEGAL);
        int sum = 0;
        for (int i = 0; i < days.size(); i++) {
            sum += r.fee - p.fee;
            if (r.fee > p.fee) {
                p.paid += r.fee - p.fee;
            }
            if (p.fee > r.fee) {
                p.owed += p.fee - r.fee;
            }
        }
        p.ramp = rampNumber;
        p.fee = r.fee;
        return sum;
    }

    private int doCancel(int permit) throws Refused {
        Permit p = permitOf(permit);
        List<Integer> days = p.toCome();
        need(!days.isEmpty(), ILLEGAL);
        int before = p.owed;
        for (int day : days) {
            if (s.ramps.get(p.ramp).closed(s.forecast(day), p.draught)) {
                p.owed += p.fee;
            } else {
                p.owed += p.fee / 2;
                p.kept += p.fee - p.fee / 2;
            }
            p.days.set(day - p.first, Fate.CANCELLED);
        }
        return p.owed - before;
    }

    private int doRefund(int permit) throws Refused {
        Permit p = permitOf(permit);
        need(p.owed != 0, ILLEGAL);
        int amount = p.owed;
        p.owed = 0;
        p.refunded += amount;
        return amount;
    }

    private int doPass(int change) throws Refused {
        range(change, -500, 500);
        need(s.today < 181, ILLEGAL);
        int lost = 0;
        for (Permit p : s.permits) {
            if (p.comesOn(s.today)) {
                if (s.ramps.get(p.ramp).closed(s.level, p.draught)) {
                    p.days.set(s.today - p.first, Fate.LOST);
                    p.owed += p.fee;
                    lost++;
                } else {
                    p.days.set(s.today - p.first, Fate.USED);
                    p.kept += p.fee;
                }
            }
        }
        s.level = Math.min(Math.max(s.level + change, 0), 5000);
        s.today++;
        return lost;
    }

    private int doLaunch(int rampNumber, int draught, int permit) throws Refused {
        Ramp r = ramp(rampNumber);
        range(draught, 0, 300);
        range(permit, -1, s.permits.size() - 1);
        int reason = 0;
        Permit p = permit == -1 ? null : s.permits.get(permit);
        if (r.closed(s.level, draught)) {
            reason = 1;
        } else if (p == null || p.ramp != rampNumber || !p.comesOn(s.today)) {
            reason = 2;
        } else if (draught > p.draught) {
            reason = 3;
        }
        if (reason > 0) {
            s.times[reason]++;
            s.fines += s.amounts[reason];
        }
        return s.amounts[reason];
    }

    // ---- the calls

    int setLevel(int level) {
        return action(() -> {
            range(level, 0, 5000);
            int before = s.level;
            s.level = level;
            return before;
        });
    }

    int setRate(int week, int rate) {
        return action(() -> doSetRate(week, rate));
    }

    int addRamp(int end, int boats, int fee) {
        return action(() -> doAddRamp(end, boats, fee));
    }

    int setFee(int ramp, int fee) {
        return action(() -> {
            Ramp r = ramp(ramp);
            range(fee, 1, 500);
            int before = r.fee;
            r.fee = fee;
            return before;
        });
    }

    int setFine(int reason, int amount) {
        return action(() -> {
            range(reason, 1, 3);
            range(amount, 0, 500);
            int before = s.amounts[reason];
            s.amounts[reason] = amount;
            return before;
        });
    }

    int buy(int ramp, int first, int last, int draught) {
        return action(() -> doBuy(ramp, first, last, draught));
    }

    int move(int permit, int ramp) {
        return action(() -> doMove(permit, ramp));
    }

    int cancel(int permit) {
        return action(() -> doCancel(permit));
    }

    int refund(int permit) {
        return action(() -> doRefund(permit));
    }

    int pass(int change) {
        return action(() -> doPass(change));
    }

    int launch(int ramp, int draught, int permit) {
        return action(() -> doLaunch(ramp, draught, permit));
    }

    int take(int slot) {
        return action(() -> {
            range(slot, 0, 1);
            slots[slot] = s.copy();
            return s.today;
        });
    }

    int restore(int slot) {
        return action(() -> {
            range(slot, 0, 1);
            need(slots[slot] != null, ILLEGAL);
            s = slots[slot].copy();
            return s.today;
        });
    }

    int undo() {
        if (history.isEmpty()) {
            return ILLEGAL;
        }
        goBack(history.removeLast());
        return history.size();
    }

    int append(int character) {
        return look(() -> {
            range(character, 1, 255);
            need(text.length() < 140, FULL);
            text += (char) character;
            return text.length();
        });
    }

    int clearText() {
        int before = text.length();
        text = "";
        return before;
    }

    // ---- programs

    private static final Pattern TOKEN = Pattern.compile("[a-z]+|[0-9]+|[^ ]", Pattern.DOTALL);
    private static final String[][] GRAMMAR = {
        {"ramp", "n", "n", "n"}, {"rate", "n", "s"}, {"buy", "n", "n", "n", "n"}, {"move", "n", "n"},
        {"cancel", "n"}, {"refund", "n"}, {"pass", "s"},
    };

    private List<String> tokens;
    private List<Integer> places;
    private int at;
    private int done;

    private String token() {
        return at < tokens.size() ? tokens.get(at) : "";
    }

    private void wrongToken() throws Refused {
        int place = at < places.size() ? places.get(at) : text.length();
        failure = new int[] {1, place, 1, NONE, done};
        throw new Refused(-1000 - place);
    }

    private int readNumber(boolean sign) throws Refused {
        int factor = 1;
        if (sign && token().equals("-")) {
            factor = -1;
            at++;
        }
        if (!token().matches("0|[1-9][0-9]{0,3}")) {
            wrongToken();
        }
        int value = Integer.parseInt(token());
        at++;
        return factor * value;
    }

    private void command() throws Refused {
        String[] form = null;
        for (String[] f : GRAMMAR) {
            if (f[0].equals(token())) {
                form = f;
            }
        }
        if (form == null) {
            wrongToken();
        }
        int place = places.get(at);
        at++;
        int[] n = new int[4];
        for (int i = 1; i < form.length; i++) {
            n[i - 1] = readNumber(form[i].equals("s"));
        }
        if (!token().equals(";")) {
            wrongToken();
        }
        at++;
        try {
            perform(form[0], n);
        } catch (Refused refused) {
            failure = new int[] {refused.code == INVALID ? 2 : 3, place, 2, refused.code, done};
            throw new Refused(-1000 - place);
        }
        done++;
    }

    private int perform(String word, int[] n) throws Refused {
        if (word.equals("ramp")) {
            return doAddRamp(n[0], n[1], n[2]);
        }
        if (word.equals("rate")) {
            return doSetRate(n[0], n[1]);
        }
        if (word.equals("buy")) {
            return doBuy(n[0], n[1], n[2], n[3]);
        }
        if (word.equals("move")) {
            return doMove(n[0], n[1]);
        }
        if (word.equals("cancel")) {
            return doCancel(n[0]);
        }
        return word.equals("refund") ? doRefund(n[0]) : doPass(n[0]);
    }

    int run() {
        tokens = new ArrayList<>();
        places = new ArrayList<>();
        Matcher m = TOKEN.matcher(text);
        while (m.find()) {
            tokens.add(m.group());
            places.add(m.start());
        }
        at = 0;
        done = 0;
        return action(() -> {
            while (at < tokens.size()) {
                command();
            }
            text = "";
            return done;
        });
    }

    int failure(int what) {
        return look(() -> {
            range(what, 0, 4);
            need(failure != null, NONE);
            return failure[what];
        });
    }

    // ---- looking

    private int toComeFor(int ramp) {
        int n = 0;
        for (Permit p : s.permits) {
            if ((ramp == -1 || p.ramp == ramp) && !p.toCome().isEmpty()) {
                n++;
            }
        }
        return n;
    }

    int count(int what) {
        if (what < 0 || what > 13) {
            return INVALID;
        }
        int snapshots = (slots[0] == null ? 0 : 1) + (slots[1] == null ? 0 : 1);
        int[] all = {s.today, s.level, s.ramps.size(), s.permits.size(), toComeFor(-1), snapshots,
            history.size(), text.length(), s.amounts[1], s.amounts[2], s.amounts[3], s.times[1],
            s.times[2], s.times[3]};
        return all[what];
    }

    int ramp(int ramp, int what) {
        return look(() -> {
            Ramp r = ramp(ramp);
            range(what, 0, 5);
            int boatsToday = 0;
            for (Permit p : s.permits) {
                if (p.ramp == ramp && p.comesOn(s.today)) {
                    boatsToday++;
                }
            }
            int[] all = {r.end, r.boats, r.fee, toComeFor(ramp), boatsToday, deepest(r, s.level)};
            return all[what];
        });
    }

    private static int deepest(Ramp r, int level) {
        for (int draught = 300; draught >= 0; draught--) {
            if (!r.closed(level, draught)) {
                return draught;
            }
        }
        return NONE;
    }

    int permit(int permit, int what) {
        return look(() -> {
            Permit p = permitOf(permit);
            range(what, 0, 12);
            int[] all = {p.ramp, p.first, p.first + p.days.size() - 1, p.draught, p.fee, p.paid, p.kept,
                p.owed, p.refunded, p.number(Fate.USED), p.number(Fate.LOST), p.number(Fate.TO_COME),
                p.number(Fate.CANCELLED) > 0 ? 1 : 0};
            return all[what];
        });
    }

    int money(int what) {
        if (what < 0 || what > 5) {
            return INVALID;
        }
        int[] all = new int[6];
        for (Permit p : s.permits) {
            all[0] += p.paid;
            all[1] += p.kept;
            all[2] += p.owed;
            all[3] += p.refunded;
            for (Fate f : p.days) {
                all[4] += f == Fate.TO_COME ? p.fee : 0;
            }
        }
        all[5] = s.fines;
        return all[what];
    }

    int rate(int week) {
        return week < 0 || week > 25 ? INVALID : s.rates[week];
    }

    // ---- forecasts

    int forecast(int day) {
        return look(() -> {
            range(day, 0, 181);
            need(day >= s.today, ILLEGAL);
            return s.forecast(day);
        });
    }

    int closure(int ramp, int draught) {
        return look(() -> {
            Ramp r = ramp(ramp);
            range(draught, 0, 300);
            for (int day = s.today; day <= 181; day++) {
                if (r.closed(s.forecast(day), draught)) {
                    return day;
                }
            }
            return NONE;
        });
    }

    int draughtFor(int ramp, int first, int last) {
        return look(() -> {
            Ramp r = ramp(ramp);
            range(first, 0, 181);
            range(last, first, 181);
            need(first >= s.today, ILLEGAL);
            int best = 300;
            for (int day = first; day <= last; day++) {
                best = Math.min(best, deepest(r, s.forecast(day)));
            }
            return best;
        });
    }

    int bestRamp(int first, int last, int draught) {
        return look(() -> {
            range(first, 0, 181);
            range(last, first, Math.min(181, first + 29));
            range(draught, 0, 300);
            need(first >= s.today, ILLEGAL);
            int best = NONE;
            for (int r = s.ramps.size() - 1; r >= 0; r--) {
                if (fits(r, null, span(first, last), draught)
                        && (best == NONE || s.ramps.get(r).fee <= s.ramps.get(best).fee)) {
                    best = r;
                }
            }
            return best;
        });
    }

    int expected(int permit, int what) {
        return look(() -> {
            Permit p = permitOf(permit);
            range(what, 0, 1);
            int lost = 0;
            int owed = p.owed;
            for (int day : p.toCome()) {
                if (s.ramps.get(p.ramp).closed(s.forecast(day), p.draught)) {
                    lost++;
                    owed += p.fee;
                }
            }
            return what == 0 ? lost : owed;
        });
    }

    int part(int permit) {
        return look(() -> {
            Permit p = permitOf(permit);
            int used = p.number(Fate.USED);
            int lost = p.number(Fate.LOST);
            need(used + lost > 0, NONE);
            return 1000 * used / (used + lost);
        });
    }

    int volume(int level) {
        return level < 0 || level > 5000 ? INVALID : (3 * level * level + 50 * level) / 4;
    }
}
