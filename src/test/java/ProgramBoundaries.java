import java.util.function.Supplier;

/** Boundary cases of the section Programs and of the promises 16 to 19. */
final class ProgramBoundaries extends Boundaries {
    /** Forty characters. */
    private static final String FORTY = "rate 3 4;".repeat(4) + "    ";

    ProgramBoundaries(Due due, Claims claims) {
        super(due, claims);
    }

    @Override
    void testAll() {
        lengthOfAText();
        formsOfCommands();
        commandsAreAsCalls();
        tokens();
        numbers();
        signs();
        spaces();
        neededSpaces();
        oneByOne();
        failureEnds();
        kinds();
        places();
        placeAtTheEnd();
        depths();
        nothingStays();
        append();
        clearText();
        run();
        runThatFails();
        failureParts();
        failureOrder();
    }

    private void runs(Supplier<RampPermits> scene, String text, int want) {
        is("run of '" + text + "'", Calls.run(scene.get(), text), want);
    }

    /** A program fails with a token that is not allowed. */
    private void wrongToken(String text, int place) {
        fails(Scenes::onePermit, text, 1, place, NONE);
    }

    private void fails(Supplier<RampPermits> scene, String text, int kind, int place, int cause) {
        RampPermits x = scene.get();
        is("run of '" + text + "'", Calls.run(x, text), -1000 - place);
        is("its kind", x.failure(0), kind);
        is("its place", x.failure(1), place);
        is("its depth", x.failure(2), kind == 1 ? 1 : 2);
        is("its cause", x.failure(3), cause);
        Supplier<RampPermits> written = Probe.after(scene, y -> {
            Calls.write(y, text);
            return 0;
        });
        alike("run of '" + text + "'", Probe.viewsButFailure(Probe.after(written, RampPermits::run)),
            Probe.viewsButFailure(written));
    }

    // ---- the section

    private void lengthOfAText() {
        sentence("Programs", "A text of at most 140 characters can be run as a program: commands (possibly none)");
        runs(Scenes::fresh, "", 0);
        runs(Scenes::fresh, " ", 0);
        runs(Scenes::fresh, " ".repeat(140), 0);
        runs(Scenes::fresh, "pass 0;".repeat(20), 20);
        runs(Scenes::fresh, FORTY.repeat(3) + "rate 25 -50;pass 50;", 14);
        runs(Scenes::fresh, "pass 0;".repeat(19) + "pass -0", -1140);
        is("a 141st character", Scenes.fullText().append(' '), FULL);
        is("a program of 140 characters", Scenes.fullText().run(), 15);
        sentence("Programs", "each of which ends with \";\", a word and then numbers");
        wrongToken("pass 1", 6);
        wrongToken("pass 1;pass 2", 13);
        wrongToken("pass 1;;", 7);
        wrongToken(";", 0);
        wrongToken(";pass 1;", 0);
        wrongToken("1 pass;", 0);
    }

    private void formsOfCommands() {
        String[][] forms = {{"\"ramp\" END BOATS FEE", "ramp 4000 20 500"},
            {"\"rate\" WEEK RATE", "rate 25 -50"},
            {"\"buy\" RAMP FIRST LAST DRAUGHT", "buy 1 152 181 300"}, {"\"move\" PERMIT RAMP", "move 0 1"},
            {"\"cancel\" PERMIT", "cancel 0"}, {"\"refund\" PERMIT", "refund 0"}, {"\"pass\" CHANGE", "pass -500"}};
        for (String[] form : forms) {
            String command = form[1];
            String word = command.substring(0, command.indexOf(' '));
            int shorter = command.lastIndexOf(' ');
            sentence("Programs", form[0]);
            runs(Scenes::onePermitOwed, command + ";", 1);
            fails(Scenes::onePermit, command, 1, command.length(), NONE);
            fails(Scenes::onePermit, command + " 1;", 1, command.length() + 1, NONE);
            fails(Scenes::onePermit, command.substring(0, shorter) + ";", 1, shorter, NONE);
            fails(Scenes::onePermit, word + ";", 1, word.length(), NONE);
            fails(Scenes::onePermit, word.substring(1) + command.substring(word.length()) + ";", 1, 0, NONE);
            fails(Scenes::onePermit, command.substring(0, word.length() - 1) + ";", 1, 0, NONE);
            fails(Scenes::onePermit, word + "s" + command.substring(word.length()) + ";", 1, 0, NONE);
            fails(Scenes::onePermit, word.toUpperCase() + command.substring(word.length()) + ";", 1, 0, NONE);
        }
        sentence("Programs", "a word and then numbers");
        for (String word : new String[] {"level", "fee", "fine", "launch", "take", "restore", "undo", "run"}) {
            fails(Scenes::onePermit, word + " 0;", 1, 0, NONE);
        }
    }

    /** Each command against its call, with the arguments at the ends of their ranges and beyond. */
    private void commandsAreAsCalls() {
        sentence("Programs", "\"ramp\" END BOATS FEE");
        runs(Scenes::onePermit, "ramp 0 1 1;ramp 4000 20 500;", 2);
        commandRefused(Scenes::onePermit, INVALID, "ramp 4001 1 1;", "ramp 0 0 1;", "ramp 0 21 1;",
            "ramp 0 1 0;", "ramp 0 1 501;");
        commandRefused(Scenes::fourRamps, FULL, "ramp 0 1 1;");
        sentence("Programs", "\"rate\" WEEK RATE");
        runs(Scenes::onePermit, "rate 0 50;rate 25 -50;", 2);
        commandRefused(Scenes::onePermit, INVALID, "rate 26 0;", "rate 0 51;", "rate 0 -51;");
        sentence("Programs", "\"buy\" RAMP FIRST LAST DRAUGHT");
        runs(Scenes::onePermit, "buy 1 0 29 0;buy 1 181 181 300;", 2);
        commandRefused(Scenes::onePermit, INVALID, "buy 2 0 0 0;", "buy 1 0 30 0;", "buy 1 182 182 0;",
            "buy 1 1 0 0;", "buy 1 0 0 301;");
        commandRefused(() -> Scenes.onDay(1), ILLEGAL, "buy 1 0 1 0;");
        commandRefused(Scenes::twelvePermits, FULL, "buy 1 0 0 0;");
        sentence("Programs", "\"move\" PERMIT RAMP");
        runs(Scenes::onePermit, "move 0 1;move 0 0;", 2);
        commandRefused(Scenes::onePermit, INVALID, "move 1 1;", "move 0 2;");
        commandRefused(Scenes::onePermit, ILLEGAL, "move 0 0;");
        sentence("Programs", "\"cancel\" PERMIT");
        runs(() -> Scenes.onDay(2), "cancel 0;", 1);
        commandRefused(Scenes::onePermit, INVALID, "cancel 1;");
        commandRefused(() -> Scenes.onDay(3), ILLEGAL, "cancel 0;");
        sentence("Programs", "\"refund\" PERMIT");
        runs(Scenes::onePermitOwed, "refund 0;", 1);
        commandRefused(Scenes::onePermit, INVALID, "refund 1;");
        commandRefused(Scenes::onePermit, ILLEGAL, "refund 0;");
        sentence("Programs", "\"pass\" CHANGE");
        runs(Scenes::onePermit, "pass 500;pass -500;", 2);
        commandRefused(Scenes::onePermit, INVALID, "pass 501;", "pass -501;");
        runs(() -> Scenes.onDay(180), "pass 0;", 1);
        commandRefused(Scenes::lastDay, ILLEGAL, "pass 0;");
    }

    private void commandRefused(Supplier<RampPermits> scene, int cause, String... texts) {
        for (String text : texts) {
            fails(scene, text, cause == INVALID ? 2 : 3, 0, cause);
        }
    }

    private void tokens() {
        sentence("Programs",
            "Tokens are maximal runs of letters a to z, maximal runs of digits, and any other character");
        int[] others = {1, 9, 10, 31, 33, '!', '+', '/', ':', '<', '@', 'A', 'Z', '[', '`',
            '{', '~', 127, 128, 160, 223, 233, 255};
        for (int other : others) {
            String sign = String.valueOf((char) other);
            wrongToken(sign, 0);
            wrongToken("pass" + sign + "1;", 4);
            wrongToken("pass 1" + sign + "2;", 6);
            wrongToken("pa" + sign + "ss 1;", 0);
            wrongToken("pass 1;" + sign, 7);
            wrongToken("pass 1;" + sign + sign + " ;", 7);
        }
        wrongToken("passa 1;", 0);
        wrongToken("passz 1;", 0);
        wrongToken("apass 1;", 0);
        wrongToken("zpass 1;", 0);
        wrongToken("passpass 1;", 0);
        wrongToken("pass 1a;", 6);
        wrongToken("pass 1z;", 6);
        wrongToken("pass a1;", 5);
        wrongToken("pass z1;", 5);
        runs(Scenes::fresh, "pass0;", 1);
        runs(Scenes::fresh, "pass99;", 1);
    }

    private void numbers() {
        sentence("Programs", "A number is a run of 1 to 4 digits, the first of several not 0");
        RampPermits x = new RampPermits();
        is("numbers of 1 to 4 digits", Calls.run(x, "ramp 9 1 9;ramp 10 10 10;ramp 999 1 500;ramp 1000 1 100;"), 4);
        is("a number of 1 digit", x.ramp(0, 0), 9);
        is("a number of 2 digits", x.ramp(1, 0), 10);
        is("a number of 3 digits", x.ramp(2, 0), 999);
        is("a number of 4 digits", x.ramp(3, 0), 1000);
        fails(Scenes::onePermit, "ramp 9999 1 1;", 2, 0, INVALID);
        wrongToken("ramp 10000 1 1;", 5);
        wrongToken("ramp 99999 1 1;", 5);
        wrongToken("ramp 9999999999999 1 1;", 5);
        wrongToken("ramp 4294967297 1 1;", 5);
        runs(Scenes::onePermit, "ramp 0 1 1;", 1);
        wrongToken("ramp 00 1 1;", 5);
        wrongToken("ramp 01 1 1;", 5);
        wrongToken("ramp 0000 1 1;", 5);
        wrongToken("ramp 0009 1 1;", 5);
        wrongToken("ramp 00000 1 1;", 5);
        wrongToken("ramp 1 01 1;", 7);
        wrongToken("ramp 1 1 10000;", 9);
        wrongToken("pass -00;", 6);
        wrongToken("pass -10000;", 6);
    }

    private void signs() {
        sentence("Programs",
            "RATE and CHANGE may have the token \"-\" in front, and are below 0 then (also \"- 0\" is let)");
        RampPermits x = new RampPermits();
        is("signs",
            Calls.run(x, "rate 0 -0;rate 1 - 0;rate 2 -1;rate 3 -  50;pass -0;pass - 0;pass -1;pass - 500;"), 8);
        is("rate(0)", x.rate(0), 0);
        is("rate(1)", x.rate(1), 0);
        is("rate(2)", x.rate(2), -1);
        is("rate(3)", x.rate(3), -50);
        is("level", x.count(1), 1499);
        wrongToken("pass --1;", 6);
        wrongToken("pass - - 1;", 7);
        wrongToken("pass -;", 6);
        wrongToken("pass 1-;", 6);
        wrongToken("pass +1;", 5);
        wrongToken("rate -0 1;", 5);
        wrongToken("rate 0 --1;", 8);
        wrongToken("ramp -0 1 1;", 5);
        wrongToken("ramp 0 -1 1;", 7);
        wrongToken("ramp 0 1 -1;", 9);
        wrongToken("buy -0 0 0 0;", 4);
        wrongToken("buy 0 -0 0 0;", 6);
        wrongToken("buy 0 0 -0 0;", 8);
        wrongToken("buy 0 0 0 -0;", 10);
        wrongToken("move -0 1;", 5);
        wrongToken("move 0 -1;", 7);
        wrongToken("cancel -0;", 7);
        wrongToken("refund -0;", 7);
    }

    private void spaces() {
        sentence("Programs", "Spaces (code 32) may stand before, between and after tokens");
        runs(Scenes::onePermit, "  buy  0   0 1    0  ;  pass   -   5 ;  ", 2);
        runs(Scenes::onePermit, " ".repeat(131) + "pass -500", -1140);
        runs(Scenes::onePermit, " ".repeat(130) + "pass -500;", 1);
        runs(Scenes::onePermit, "pass" + " ".repeat(132) + "500;", 1);
        runs(Scenes::onePermit, "pass 500;" + " ".repeat(131), 1);
        wrongToken("pa ss 1;", 0);
        wrongToken("pass 1 0;", 7);
        for (int other : new int[] {9, 10, 13, 31, 33, 160}) {
            wrongToken((char) other + "pass 1;", 0);
            wrongToken("pass" + (char) other + "1;", 4);
            wrongToken("pass 1;" + (char) other, 7);
        }
    }

    private void neededSpaces() {
        sentence("Programs", "they are needed only between two runs of letters and between two runs of digits");
        runs(Scenes::onePermit, "ramp1700 1 10;rate0-5;rate1 5;buy1 0 0 0;move0 1;cancel0;pass1;pass-1;refund0;", 9);
        wrongToken("rate15;", 6);
        wrongToken("move01;", 4);
        wrongToken("ramp1700110;", 4);
        wrongToken("passpass1;", 0);
    }

    private void oneByOne() {
        sentence("Programs", "The commands are read and run one by one (each as its \";\" is read)");
        fails(Scenes::onePermit, "pass 501;x", 2, 0, INVALID);
        fails(Scenes::onePermit, "pass 501;pass", 2, 0, INVALID);
        fails(Scenes::onePermit, "pass 501x", 1, 8, NONE);
        fails(Scenes::onePermit, "pass 501 1;", 1, 9, NONE);
        fails(Scenes::onePermit, "pass 501", 1, 8, NONE);
        fails(Scenes::onePermit, "refund 0;;", 3, 0, ILLEGAL);
        fails(Scenes::onePermit, "refund 0", 1, 8, NONE);
        RampPermits x = Scenes.onePermit();
        is("each command finds what the one before did",
            Calls.run(x, "ramp 1900 1 9;buy 2 0 0 0;move 1 0;buy 2 0 0 0;pass -101;buy 1 1 1 0;move 3 0;"), 7);
        is("permits", x.count(3), 4);
    }

    private void failureEnds() {
        sentence("Programs", "A failure ends the program");
        fails(Scenes::onePermit, "pass 1;pass 501;pass 2;", 2, 7, INVALID);
        fails(Scenes::onePermit, "pass 501;refund 0;x", 2, 0, INVALID);
        fails(Scenes::onePermit, "refund 0;pass 501;x", 3, 0, ILLEGAL);
        fails(Scenes::onePermit, "x;pass 501;refund 0;", 1, 0, NONE);
        RampPermits x = Scenes.onePermit();
        Calls.run(x, "pass 1;x;pass 2;y;");
        is("commands before the failure", x.failure(4), 1);
        is("today", x.count(0), 0);
    }

    private void kinds() {
        sentence("Programs",
            "1 a token that is not allowed by the grammar (also a number of more than 4 digits or with a 0 ahead)");
        wrongToken("x", 0);
        wrongToken("pass 12345;", 5);
        wrongToken("pass 05;", 5);
        wrongToken("pass 1", 6);
        sentence("Programs", "2 a command whose call returns INVALID_ARGUMENT");
        fails(Scenes::onePermit, "pass 501;", 2, 0, INVALID);
        fails(Scenes::onePermit, "pass 9999;", 2, 0, INVALID);
        sentence("Programs", "3 a command whose call returns another error code");
        fails(Scenes::onePermit, "refund 0;", 3, 0, ILLEGAL);
        fails(Scenes::fourRamps, "ramp 0 1 1;", 3, 0, FULL);
        RampPermits x = Scenes.onePermit();
        x.setFee(0, 500);
        x.setFee(1, 1);
        x.buy(0, 0, 29, 0);
        is("a difference of -14970 is no error code", Calls.run(x, "move 1 1;"), 1);
        is("a previous rate of -50 is none", Calls.run(x, "rate 0 -50;rate 0 0;"), 2);
    }

    private void places() {
        sentence("Programs",
            "Its place is the offset (from 0) of the first character of this token, or of the word of this command");
        wrongToken("x pass 1;", 0);
        wrongToken("   xyz 1;", 3);
        wrongToken("pass   12345;", 7);
        wrongToken("pass 1;  xyz;", 9);
        wrongToken("pass 1 ; pass - 5 - ;", 18);
        wrongToken(" ".repeat(139) + "x", 139);
        wrongToken("pass 1;".repeat(19) + "rate  x", 139);
        fails(Scenes::onePermit, "   pass  501  ;", 2, 3, INVALID);
        fails(Scenes::onePermit, "pass 1;   refund   0;", 3, 10, ILLEGAL);
        fails(Scenes::onePermit, " ".repeat(131) + "refund 0;", 3, 131, ILLEGAL);
    }

    private void placeAtTheEnd() {
        sentence("Programs", "if the text ends where something is missing, it is the length of the text");
        wrongToken("pass", 4);
        wrongToken("pass ", 5);
        wrongToken("pass -", 6);
        wrongToken("pass -  ", 8);
        wrongToken("pass 1", 6);
        wrongToken("pass 1   ", 9);
        wrongToken("pass 1;buy 0 0 0", 16);
        wrongToken("pass 501", 8);
        wrongToken(" ".repeat(136) + "pass", 140);
        wrongToken("pass" + " ".repeat(136), 140);
    }

    private void depths() {
        sentence("Programs",
            "Its depth is 1 for the kind 1, and 2 for the others (these have the error code for their cause)");
        String[] texts = {"x", "pass 501;", "refund 0;", "ramp 0 1 1;ramp 0 1 1;ramp 0 1 1;"};
        int[][] want = {{1, NONE}, {2, INVALID}, {2, ILLEGAL}, {2, FULL}};
        RampPermits x = Scenes.onePermit();
        for (int i = 0; i < texts.length; i++) {
            Calls.run(x, texts[i]);
            is("depth of '" + texts[i] + "'", x.failure(2), want[i][0]);
            is("cause of '" + texts[i] + "'", x.failure(3), want[i][1]);
        }
    }

    private void nothingStays() {
        sentence("Programs", "If a program fails, nothing that it has done stays (but the failure)");
        fails(Scenes::busy, "ramp 0 1 1;rate 9 9;buy 3 9 9 0;move 0 1;refund 2;cancel 0;pass -9;x", 1, 67, NONE);
        fails(Scenes::busy, "ramp 0 1 1;rate 9 9;buy 3 9 9 0;move 0 1;refund 2;cancel 0;pass -9;pass 501;", 2,
            67, INVALID);
        fails(Scenes::busy, "ramp 0 1 1;rate 9 9;buy 3 9 9 0;move 0 1;refund 2;cancel 0;pass -9;refund 2;", 3,
            67, ILLEGAL);
        fails(Scenes::fresh, "ramp 0 1 1;ramp 0 1 1;ramp 0 1 1;ramp 0 1 1;ramp 0 1 1;", 3, 44, FULL);
        fails(() -> Scenes.onDay(180), "pass 0;pass 0;", 3, 7, ILLEGAL);
        RampPermits x = Scenes.busy();
        Calls.run(x, "pass 1;pass 2;x");
        is("the failure stays", x.failure(4), 2);
    }

    // ---- the promises

    private void append() {
        sentence("Promise 16", "`character`: character code, 1 to 255");
        range(Scenes::busy, "append", 1, 255, RampPermits::append, 10, 10);
        sentence("Promise 16", "Returns the new length of the text");
        RampPermits x = new RampPermits();
        for (int length = 1; length <= 140; length++) {
            is("append", x.append(length == 1 ? 255 : ' '), length);
        }
        is("length", x.count(7), 140);
        is("append to a text that was cleared",
            Probe.after(Scenes::fullText, RampPermits::clearText).get().append(1), 1);
        sentence("Promise 16", "INVALID_ARGUMENT if character is out of range");
        refusedOf(Scenes::busy, "append", RampPermits::append, INVALID, LEAST, -1, 0, 256, 65536 + ' ', GREATEST);
        sentence("Promise 16", "CAPACITY_EXCEEDED if the text already has 140 characters");
        refusedOf(Scenes::fullText, "append to 140", RampPermits::append, FULL, 1, ' ', ';', 255);
        sentence("Promise 16", "Appends a character to the text");
        is("a text of 139", Calls.run(new RampPermits(), "pass 1;" + " ".repeat(132)), 1);
        is("no action", Probe.after(Scenes::fresh, y -> y.append('a')).get().count(6), 0);
        RampPermits last = new RampPermits();
        Calls.write(last, " ".repeat(139));
        is("the last character", last.append('x'), 140);
        is("it is read", last.run(), -1139);
    }

    private void clearText() {
        sentence("Promise 17", "Makes the text empty");
        RampPermits x = Scenes.fullText();
        x.clearText();
        is("length", x.count(7), 0);
        is("run()", x.run(), 0);
        is("rate(3)", x.rate(3), 0);
        is("append", x.append('p'), 1);
        sentence("Promise 17", "Returns the previous length of the text");
        is("clearText() of an empty text", new RampPermits().clearText(), 0);
        is("clearText() of 1", Probe.after(Scenes::fresh, y -> y.append(1)).get().clearText(), 1);
        RampPermits full = Scenes.fullText();
        is("clearText() of 140", full.clearText(), 140);
        is("clearText() of what was cleared", full.clearText(), 0);
    }

    private void run() {
        sentence("Promise 18", "this is one action, also without commands, and the text becomes empty");
        recorded(Scenes::oneRamp, "run without commands", RampPermits::run);
        recorded(Scenes::oneRamp, "run of one space", x -> Calls.run(x, " "));
        recorded(Scenes::onePermit, "run of many commands",
            x -> Calls.run(x, "ramp 1 1 1;rate 1 1;buy 1 0 0 0;move 0 1;move 0 0;cancel 0;refund 0;pass 1;"));
        recorded(Scenes::oneRamp, "run of 20 commands", x -> Calls.run(x, "pass 0;".repeat(20)));
        for (String text : new String[] {"", " ", "pass 1;", "pass 1; "}) {
            RampPermits x = new RampPermits();
            Calls.run(x, text);
            is("length behind '" + text + "'", x.count(7), 0);
            is("run() behind '" + text + "'", x.run(), 0);
        }
        RampPermits full = Scenes.fullText();
        full.run();
        is("length behind 140 characters", full.count(7), 0);
        is("append behind 140 characters", full.append(' '), 1);
        full.undo();
        is("undo() does not bring the text back", full.count(7), 1);
        sentence("Promise 18", "Returns the number of commands");
        is("no command", new RampPermits().run(), 0);
        is("one command", Calls.run(new RampPermits(), "pass 0;"), 1);
        is("as many commands as there is room for", Calls.run(Scenes.oneRamp(), "pass0;".repeat(23) + "  "), 23);
    }

    private void runThatFails() {
        sentence("Promise 18", "if it fails, the text is kept");
        RampPermits x = new RampPermits();
        is("run of a text that fails at its end", Calls.run(x, "pass 1"), -1006);
        is("length", x.count(7), 6);
        is("states", x.count(6), 0);
        is("run() again", x.run(), -1006);
        x.append(';');
        is("run() when it is mended", x.run(), 1);
        is("level", x.count(1), 2001);
        sentence("Promise 18", "-1000 minus the place of the failure if it fails");
        is("the first place", Calls.run(new RampPermits(), "x"), -1000);
        is("the second place", Calls.run(new RampPermits(), " x"), -1001);
        is("the last place of a character", Calls.run(new RampPermits(), " ".repeat(139) + "x"), -1139);
        is("the last place of all", Calls.run(new RampPermits(), " ".repeat(136) + "pass"), -1140);
        is("a command", Calls.run(new RampPermits(), "pass 1; refund 0;"), -1008);
    }

    private void failureParts() {
        sentence("Promise 19",
            "0 its kind, 1 its place, 2 its depth, 3 the error code of the call (NONE for the kind 1), 4 the number");
        String[] texts = {"pass 1; x", "pass 1; pass 501;", "pass 1; ramp 0 1 1; ramp 0 1 1; ramp 0 1 1;", "x",
            "ramp 0 1 1;ramp 0 1 1;pass 1;refund 0;"};
        int[][] want = {{1, 8, 1, NONE, 1}, {2, 8, 2, INVALID, 1}, {3, 32, 2, FULL, 3}, {1, 0, 1, NONE, 0},
            {3, 29, 2, ILLEGAL, 3}};
        RampPermits x = Scenes.onePermit();
        for (int i = 0; i < texts.length; i++) {
            Calls.run(x, texts[i]);
            for (int what = 0; what <= 4; what++) {
                is("failure(" + what + ") of '" + texts[i] + "'", x.failure(what), want[i][what]);
            }
        }
        sentence("Promise 19", "Returns a part of the latest failure of a program");
        is("a program that does not fail", Calls.run(x, "pass 1;"), 1);
        is("failure(1) behind it", x.failure(1), 29);
        x.undo();
        is("failure(1) behind undo()", x.failure(1), 29);
        x.setLevel(5001);
        is("failure(0) behind a refused call", x.failure(0), 3);
        is("failure(3) behind a refused call", x.failure(3), ILLEGAL);
        sentence("Promise 19", "Returns the part");
        is("the least place", failureOf("x", 1), 0);
        is("the greatest place", failureOf(" ".repeat(136) + "pass", 1), 140);
        is("the least number of commands", failureOf("x", 4), 0);
        is("the greatest number of commands", failureOf("pass0;".repeat(23) + "x", 4), 23);
    }

    private static int failureOf(String text, int what) {
        RampPermits x = new RampPermits();
        Calls.run(x, text);
        return x.failure(what);
    }

    private void failureOrder() {
        sentence("Promise 19", "INVALID_ARGUMENT if what is out of range");
        refusedOf(Scenes::busy, "failure", RampPermits::failure, INVALID, LEAST, -1, 5, GREATEST);
        refusedOf(Scenes::fresh, "failure without one", RampPermits::failure, INVALID, LEAST, -1, 5, GREATEST);
        sentence("Promise 19", "NONE if there was no failure yet");
        refusedOf(Scenes::fresh, "failure", RampPermits::failure, NONE, 0, 1, 2, 3, 4);
        RampPermits x = Scenes.onePermit();
        x.setLevel(-1);
        Calls.run(x, "pass 1;");
        for (int what = 0; what <= 4; what++) {
            is("failure(" + what + ") behind a program that does not fail", x.failure(what), NONE);
        }
    }
}
