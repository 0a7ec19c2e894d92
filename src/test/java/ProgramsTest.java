/** Promises 16 to 19: append, clearText, run, failure. */
final class ProgramsTest {
    private static final int INVALID = RampPermits.INVALID_ARGUMENT;
    private static final int ILLEGAL = RampPermits.ILLEGAL_STATE;
    private static final int FULL = RampPermits.CAPACITY_EXCEEDED;
    private static final int NONE = RampPermits.NONE;

    private final Due due = new Due("ProgramsTest");

    public static void main(String[] args) {
        ProgramsTest test = new ProgramsTest();
        test.append();
        test.clearText();
        test.runEachCommand();
        test.runIsOneAction();
        test.runWithSpaces();
        test.runNumbers();
        test.wrongTokens();
        test.wrongCalls();
        test.nothingStaysOfAFailure();
        test.failure();
        test.due.finish();
    }

    private void append() {
        due.part("promise 16");
        RampPermits x = new RampPermits();
        for (int wrong : new int[] {0, -1, 256, Integer.MIN_VALUE, Integer.MAX_VALUE, 65536 + 'a'}) {
            due.is("append(" + wrong + ")", x.append(wrong), INVALID);
        }
        due.is("length", x.count(7), 0);
        due.is("append(1)", x.append(1), 1);
        due.is("append(255)", x.append(255), 2);
        for (int length = 3; length <= 140; length++) {
            due.is("append(' ')", x.append(' '), length);
        }
        due.is("append to 140", x.append('a'), FULL);
        due.is("append(0) to 140", x.append(0), INVALID);
        due.is("append(256) to 140", x.append(256), INVALID);
        due.is("length", x.count(7), 140);
        due.is("append is no action", x.count(6), 0);
    }

    private void clearText() {
        due.part("promise 17");
        RampPermits x = new RampPermits();
        due.is("clearText() of nothing", x.clearText(), 0);
        Calls.write(x, "pass 1;");
        due.is("clearText()", x.clearText(), 7);
        due.is("length", x.count(7), 0);
        due.is("clearText() again", x.clearText(), 0);
        due.is("clearText is no action", x.count(6), 0);
        due.is("nothing is left", x.run(), 0);
        due.is("today", x.count(0), 0);
        due.is("append(' ') starts anew", x.append(' '), 1);
    }

    private void runEachCommand() {
        due.part("promise 18, each command");
        RampPermits x = new RampPermits();
        due.is("ramp", Calls.run(x, "ramp 1900 2 21;"), 1);
        due.is("ramp(0, 0)", x.ramp(0, 0), 1900);
        due.is("ramp(0, 1)", x.ramp(0, 1), 2);
        due.is("ramp(0, 2)", x.ramp(0, 2), 21);
        x.addRamp(1700, 1, 5);
        due.is("rate", Calls.run(x, "rate 3 -20;rate 4 50;rate 5 -0;"), 3);
        due.is("rate(3)", x.rate(3), -20);
        due.is("rate(4)", x.rate(4), 50);
        due.is("buy", Calls.run(x, "buy 0 2 6 33;"), 1);
        due.is("permit(0, 1)", x.permit(0, 1), 2);
        due.is("permit(0, 2)", x.permit(0, 2), 6);
        due.is("permit(0, 3)", x.permit(0, 3), 33);
        due.is("move", Calls.run(x, "move 0 1;"), 1);
        due.is("permit(0, 0)", x.permit(0, 0), 1);
        due.is("permit(0, 7)", x.permit(0, 7), 80);
        due.is("refund", Calls.run(x, "refund 0;"), 1);
        due.is("permit(0, 8)", x.permit(0, 8), 80);
        due.is("cancel", Calls.run(x, "cancel 0;"), 1);
        due.is("permit(0, 12)", x.permit(0, 12), 1);
        due.is("pass", Calls.run(x, "pass -150;pass 20;"), 2);
        due.is("today", x.count(0), 2);
        due.is("level", x.count(1), 1870);
        x.setLevel(2000);
        due.is("an answer below 0 is no failure", Calls.run(x, "buy 0 9 9 0;move 1 1;rate 3 9;rate 3 8;"), 4);
    }

    private void runIsOneAction() {
        due.part("promise 18, one action");
        RampPermits x = new RampPermits();
        due.is("run() of nothing", x.run(), 0);
        due.is("states", x.count(6), 1);
        due.is("run() of spaces", Calls.run(x, "   "), 0);
        due.is("the text is empty then", x.count(7), 0);
        due.is("states", x.count(6), 2);
        due.is("run()", Calls.run(x, "pass 1;pass 2;pass 3;ramp 10 2 3;"), 4);
        due.is("states", x.count(6), 3);
        due.is("the text is empty then", x.count(7), 0);
        due.is("level", x.count(1), 2006);
        due.is("undo()", x.undo(), 2);
        due.is("level", x.count(1), 2000);
        due.is("today", x.count(0), 0);
        due.is("ramps", x.count(2), 0);
        due.is("the text stays empty", x.count(7), 0);
        due.is("failure(0)", x.failure(0), NONE);
        due.is("20 commands", Calls.run(x, "pass 0;".repeat(20)), 20);
        due.is("undo() of all", x.undo(), 2);
        due.is("today", x.count(0), 0);
    }

    private void runWithSpaces() {
        due.part("promise 18, spaces");
        RampPermits x = new RampPermits();
        due.is("spaces everywhere", Calls.run(x, "  ramp   1900  2 21  ;   rate 1  -  5 ; "), 2);
        due.is("rate(1)", x.rate(1), -5);
        due.is("no space but between numbers", Calls.run(x, "rate1-7;pass5;pass-6;buy0 2 3 0;"), 4);
        due.is("rate(1)", x.rate(1), -7);
        due.is("level", x.count(1), 1999);
        due.is("a space within a word", Calls.run(x, "pa ss 5;"), -1000);
        due.is("a space within a number makes two", Calls.run(x, "pass 1 2;"), -1007);
        due.is("a tabulator is no space", Calls.run(x, "pass\t1;"), -1004);
        due.is("a line's end is no space", Calls.run(x, "pass 1;\n"), -1007);
        due.is("a hard space is no space", Calls.run(x, "pass\u00a01;"), -1004);
    }

    private void runNumbers() {
        due.part("promise 18, numbers");
        RampPermits x = new RampPermits();
        due.is("0", Calls.run(x, "pass 0;"), 1);
        due.is("- 0", Calls.run(x, "pass - 0;"), 1);
        due.is("-500", Calls.run(x, "pass -500;"), 1);
        due.is("level", x.count(1), 1500);
        due.is("four digits", Calls.run(x, "ramp 4000 1 1;"), 1);
        due.is("9999 is a number", Calls.run(x, "pass 9999;"), -1000);
        due.is("its kind", x.failure(0), 2);
        due.is("10000 is none", Calls.run(x, "pass 10000;"), -1005);
        due.is("its kind", x.failure(0), 1);
        due.is("00 is none", Calls.run(x, "pass 00;"), -1005);
        due.is("05 is none", Calls.run(x, "pass 05;"), -1005);
        due.is("- 05 is none", Calls.run(x, "pass -05;"), -1006);
        due.is("--5 is none", Calls.run(x, "pass --5;"), -1006);
        due.is("+5 is none", Calls.run(x, "pass +5;"), -1005);
        due.is("a sign before WEEK", Calls.run(x, "rate -1 5;"), -1005);
        due.is("a sign before END", Calls.run(x, "ramp -1 5 6;"), -1005);
        due.is("a sign before FEE", Calls.run(x, "ramp 1 5 -6;"), -1009);
        due.is("a sign before RAMP", Calls.run(x, "buy -0 1 1 1;"), -1004);
        due.is("a sign before a permit", Calls.run(x, "cancel - 0;"), -1007);
        due.is("a sign before a permit", Calls.run(x, "refund - 0;"), -1007);
        due.is("a sign before a permit", Calls.run(x, "move - 0 0;"), -1005);
        due.is("a sign before RAMP", Calls.run(x, "move 0 -0;"), -1007);
    }

    private void wrong(String text, int place, int before) {
        RampPermits x = new RampPermits();
        String state = Calls.seasonOf(x);
        due.is("run of '" + text + "'", Calls.run(x, text), -1000 - place);
        int[] want = {1, place, 1, NONE, before};
        for (int what = 0; what < want.length; what++) {
            due.is("failure(" + what + ") of '" + text + "'", x.failure(what), want[what]);
        }
        due.is("length of '" + text + "'", x.count(7), text.length());
        due.is("states after '" + text + "'", x.count(6), 0);
        due.isTrue("'" + text + "' changed nothing", state.equals(Calls.seasonOf(x)));
    }

    private void wrongTokens() {
        due.part("promise 18 and 19, tokens");
        wrong(";", 0, 0);
        wrong("5", 0, 0);
        wrong("-", 0, 0);
        wrong("  foo 1;", 2, 0);
        wrong("Pass 1;", 0, 0);
        wrong("pAss 1;", 0, 0);
        wrong("passs 1;", 0, 0);
        wrong("passz 1;", 0, 0);
        wrong("passa 1;", 0, 0);
        wrong("pas 1;", 0, 0);
        wrong("passrate 1;", 0, 0);
        wrong("pass;", 4, 0);
        wrong("pass", 4, 0);
        wrong("pass  ", 6, 0);
        wrong("pass 5", 6, 0);
        wrong("pass 5  ", 8, 0);
        wrong("pass -", 6, 0);
        wrong("pass - ;", 7, 0);
        wrong("pass x;", 5, 0);
        wrong("pass 5 6;", 7, 0);
        wrong("pass 5 x;", 7, 0);
        wrong("pass 5:", 6, 0);
        wrong("pass 5;;", 7, 1);
        wrong("pass 5; pass", 12, 1);
        wrong("pass 5; pass 6; rate 3;", 22, 2);
        wrong("pass 5;ramp 1 2;", 15, 1);
        wrong("ramp 1 2 3 4;", 11, 0);
        wrong("ramp 1 2 3", 10, 0);
        wrong("buy 0 0 0;", 9, 0);
        wrong("level 5;", 0, 0);
        wrong("fee 0 5;", 0, 0);
        wrong("pass 12345;", 5, 0);
        wrong("pass - 12345;", 7, 0);
        wrong("pass 600 x", 9, 0);
        wrong("pass 1;\u00e9", 7, 1);
        wrong("pass{1;", 4, 0);
        wrong("pass`1;", 4, 0);
        wrong("pass /1;", 5, 0);
    }

    private void wrongCall(RampPermits x, String text, int kind, int place, int code, int before) {
        String state = Calls.seasonOf(x);
        int history = x.count(6);
        due.is("run of '" + text + "'", Calls.run(x, text), -1000 - place);
        int[] want = {kind, place, 2, code, before};
        for (int what = 0; what < want.length; what++) {
            due.is("failure(" + what + ") of '" + text + "'", x.failure(what), want[what]);
        }
        due.is("length of '" + text + "'", x.count(7), text.length());
        due.is("states after '" + text + "'", x.count(6), history);
        due.isTrue("'" + text + "' changed nothing", state.equals(Calls.seasonOf(x)));
    }

    private void wrongCalls() {
        due.part("promise 18 and 19, calls");
        wrongCall(new RampPermits(), "ramp 4001 1 1;", 2, 0, INVALID, 0);
        wrongCall(new RampPermits(), " pass 1 ; rate 0 51 ; x", 2, 10, INVALID, 1);
        wrongCall(new RampPermits(), "pass 501;", 2, 0, INVALID, 0);
        wrongCall(new RampPermits(), "buy 0 0 0 0;", 2, 0, INVALID, 0);
        wrongCall(new RampPermits(), "cancel 0;", 2, 0, INVALID, 0);
        wrongCall(new RampPermits(), "refund 0;", 2, 0, INVALID, 0);
        wrongCall(new RampPermits(), "move 0 0;", 2, 0, INVALID, 0);
        wrongCall(new RampPermits(), "ramp 1 1 1;".repeat(4) + " ramp 1 1 1; ;", 3, 45, FULL, 4);
        wrongCall(Scenes.oneRamp(), "buy 0 0 0 301;", 2, 0, INVALID, 0);
        wrongCall(Scenes.oneRamp(), "pass -1; buy 0 1 1 300;", 3, 9, ILLEGAL, 1);
        wrongCall(Scenes.oneRamp(), "buy 0 0 1 5;refund 0;", 3, 12, ILLEGAL, 1);
        wrongCall(Scenes.oneRamp(), "buy 0 0 1 5;move 0 0;", 3, 12, ILLEGAL, 1);
        wrongCall(Scenes.oneRamp(), "buy 0 0 1 5;pass 0;pass 0; cancel 0;", 3, 27, ILLEGAL, 3);
        RampPermits last = new RampPermits();
        Calls.passDays(last, 181);
        wrongCall(last, "rate 0 1;pass 0;", 3, 9, ILLEGAL, 1);
    }

    private void nothingStaysOfAFailure() {
        due.part("promise 18, nothing stays");
        RampPermits x = new RampPermits();
        x.addRamp(1900, 1, 20);
        x.addRamp(1900, 1, 10);
        x.buy(0, 0, 5, 10);
        x.take(0);
        wrongCall(x, "ramp 1 2 3;rate 1 2;buy 1 9 9 0;move 0 1;refund 0;cancel 0;pass -99;move 0 0;", 3, 68,
            ILLEGAL, 7);
        due.is("the snapshot stays", x.count(5), 1);
        due.is("the text can be mended", x.append(' '), 78);
        due.is("run() again", x.run(), -1068);
        due.is("states", x.count(6), 4);
        due.is("undo()", x.undo(), 3);
        due.is("no snapshot then", x.count(5), 0);
    }

    private void failure() {
        due.part("promise 19");
        RampPermits x = new RampPermits();
        for (int wrong : new int[] {-1, 5, Integer.MIN_VALUE, Integer.MAX_VALUE}) {
            due.is("failure(" + wrong + ")", x.failure(wrong), INVALID);
        }
        for (int what = 0; what <= 4; what++) {
            due.is("failure(" + what + ") of none", x.failure(what), NONE);
        }
        Calls.run(x, "pass 1;pass 600;");
        due.is("failure(4)", x.failure(4), 1);
        Calls.run(x, "pass 1;");
        due.is("a program without a failure leaves it: kind", x.failure(0), 2);
        due.is("place", x.failure(1), 7);
        due.is("depth", x.failure(2), 2);
        due.is("cause", x.failure(3), INVALID);
        due.is("commands", x.failure(4), 1);
        Calls.run(x, "x");
        due.is("the latest counts: kind", x.failure(0), 1);
        due.is("place", x.failure(1), 0);
        due.is("depth", x.failure(2), 1);
        due.is("cause", x.failure(3), NONE);
        due.is("commands", x.failure(4), 0);
        x.clearText();
        x.undo();
        due.is("it outlives undo()", x.failure(0), 1);
        due.is("failure(5)", x.failure(5), INVALID);
        due.is("failure(-1)", x.failure(-1), INVALID);
    }
}
