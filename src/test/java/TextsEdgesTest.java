/** The boundaries of texts and of the promises 18 to 21. */
public final class TextsEdgesTest {
    private static final int MIN = Integer.MIN_VALUE;
    private static final int MAX = Integer.MAX_VALUE;

    /** Possible, on the object of withText: each of the words, with all its numbers. */
    private static final String[] POSSIBLE = {"come 2 -45 6;", "go 1;", "speed 0 7;", "jump 1 -8;", "wait 9;"};

    /** Has a letter, a digit, a blank and a ";" at its end, 60 characters, and no fault. */
    private static final String FULL = "jump 0 0001;jump 1 -0002;speed 0 0003;speed 1 -004;wait 500;";

    public static void main(String[] args) {
        typeRange();
        typeUpToSixty();
        typeAppends();
        clearTextLengths();
        clearTextThenType();
        textEmptyHasNoFault();
        eachWordIsPossible();
        eachEndIsNeeded();
        oneBlankBetweenTwo();
        asManyNumbersAsTold();
        oneToFourDigits();
        minusAheadOnly();
        digitsAlone();
        wordsAsTold();
        rangesOfNumbers();
        refusedByState();
        refusedByLimits();
        formRatherThanState();
        positions();
        positionAtTheEnd();
        ofTheFirstFault();
        whenThoseAheadAreDone();
        withTheStateOfNow();
        faultRange();
        playOfNothing();
        playReturnsHowMany();
        playIsOneChange();
        playStays();
        playRefused();
        playAsTheCallsDo();
        Expect.finish();
    }

    private static void due(String call, int got, int want) {
        Expect.due(call, got, want);
    }

    private static void fault(String text, int position, int reason, int cause) {
        faultOn(Setups.withText(text), text, position, reason, cause);
    }

    private static void faultOn(LeadRaces x, String text, int position, int reason, int cause) {
        due("'" + text + "' length", x.count(5), text.length());
        due("'" + text + "' position", x.fault(0), position);
        due("'" + text + "' reason", x.fault(1), reason);
        due("'" + text + "' cause", x.fault(2), cause);
        due("'" + text + "' play", x.play() == Expect.NOT_POSSIBLE ? 1 : 0, reason > 0 ? 1 : 0);
    }

    private static void noFault(String text) {
        fault(text, Expect.NOT_FOUND, Expect.NOT_FOUND, Expect.NOT_FOUND);
    }

    /** Alone, and behind a command that is possible. */
    private static void notOfForm(String text) {
        fault(text, 0, 1, Expect.NOT_FOUND);
        fault("wait 1;" + text, 7, 1, Expect.NOT_FOUND);
    }

    private static void refused(String text, int cause) {
        fault(text, 0, 2, cause);
        fault("wait 1;" + text, 7, 2, cause);
    }

    /** type: "character: 32 to 126" */
    private static void typeRange() {
        LeadRaces x = new LeadRaces();
        int[] outside = {MIN, -1, 0, 9, 10, 30, 31, 127, 128, 255, 256 + 32, 65536 + 59, MAX};
        for (int character : outside) {
            due("type(" + character + ")", x.type(character), Expect.INVALID);
        }
        due("length", x.count(5), 0);
        int[] inside = {32, 33, 59, 65, 125, 126};
        for (int i = 0; i < inside.length; i++) {
            due("type(" + inside[i] + ")", x.type(inside[i]), i + 1);
            due("length", x.count(5), i + 1);
        }
        for (int character = 32; character <= 126; character++) {
            due("type(" + character + ") first", new LeadRaces().type(character), 1);
        }
    }

    /** "a text of at most 60 characters, initially empty"; type: "LIMIT_REACHED if it has 60" */
    private static void typeUpToSixty() {
        LeadRaces x = new LeadRaces();
        due("initially empty", x.count(5), 0);
        for (int i = 1; i <= 60; i++) {
            due("type number " + i, x.type(FULL.charAt(i - 1)), i);
        }
        due("the 61st", x.type(59), Expect.LIMIT);
        due("again", x.type(32), Expect.LIMIT);
        due("out of range first", x.type(31), Expect.INVALID);
        due("out of range first", x.type(127), Expect.INVALID);
        due("length", x.count(5), 60);
        x.clearText();
        due("the first again", x.type(119), 1);
    }

    /** type: "Appends a character to the text": at its end, and just this one. */
    private static void typeAppends() {
        LeadRaces x = new LeadRaces();
        String text = "wait 12;wait 3;";
        int[] positions = {0, 0, 0, 0, 0, 0, 0, Expect.NOT_FOUND, 8, 8, 8, 8, 8, 8, Expect.NOT_FOUND};
        for (int i = 0; i < text.length(); i++) {
            x.type(text.charAt(i));
            due("behind " + (i + 1), x.fault(0), positions[i]);
        }
        x.play();
        due("time", x.count(1), 15);
    }

    /** clearText: "Returns the length it had" */
    private static void clearTextLengths() {
        for (int length = 0; length <= 60; length++) {
            LeadRaces x = new LeadRaces();
            Expect.typeIn(x, FULL.substring(0, length));
            due("length " + length, x.clearText(), length);
            due("empty", x.count(5), 0);
            due("cleared again", x.clearText(), 0);
        }
        LeadRaces y = new LeadRaces();
        Expect.typeIn(y, FULL + "more");
        due("no more than 60", y.clearText(), 60);
    }

    private static void clearTextThenType() {
        LeadRaces x = Setups.withText(FULL);
        due("full", x.clearText(), 60);
        due("no fault", x.fault(0), Expect.NOT_FOUND);
        due("no commands", x.play(), 0);
        Expect.typeIn(x, "wait");
        due("nothing is left of the old text", x.fault(1), 1);
        Expect.typeIn(x, " 2;");
        due("one command", x.play(), 1);
        due("two moments", x.count(1), 2);
    }

    /** fault: "NOT_FOUND if the text has no fault (also if it is empty)" */
    private static void textEmptyHasNoFault() {
        for (int what = 0; what < 3; what++) {
            due("empty, without runners", new LeadRaces().fault(what), Expect.NOT_FOUND);
            due("empty", Setups.withText("").fault(what), Expect.NOT_FOUND);
            due("full", Setups.withText(FULL).fault(what), Expect.NOT_FOUND);
        }
        noFault("");
        noFault(FULL);
    }

    private static void eachWordIsPossible() {
        StringBuilder all = new StringBuilder();
        for (String command : POSSIBLE) {
            noFault(command);
            noFault(command + "wait 1;");
            noFault("wait 1;" + command);
            if (!command.startsWith("go")) {
                all.append(command);
            }
        }
        noFault(all + "go 1;");
    }

    /** "commands, each followed by ";"", "if it is not of this form, its ";" included" */
    private static void eachEndIsNeeded() {
        for (String command : POSSIBLE) {
            for (int length = 1; length < command.length(); length++) {
                notOfForm(command.substring(0, length));
            }
            String without = command.substring(0, command.length() - 1);
            notOfForm(without + ",");
            notOfForm(without + ":");
            notOfForm(without + " ;");
            notOfForm(without + " ");
            notOfForm(without + without + ";");
            notOfForm(";" + command);
            fault(command + ";", command.length(), 1, Expect.NOT_FOUND);
            fault(command + " ", command.length(), 1, Expect.NOT_FOUND);
        }
        notOfForm(";");
        notOfForm(" ");
        notOfForm("~");
    }

    /** "of words with one blank between two" */
    private static void oneBlankBetweenTwo() {
        for (String command : POSSIBLE) {
            notOfForm(" " + command);
            for (int at = 0; at < command.length(); at++) {
                if (command.charAt(at) == ' ') {
                    notOfForm(command.substring(0, at) + command.substring(at + 1));
                    notOfForm(command.substring(0, at) + " " + command.substring(at));
                    notOfForm(command.substring(0, at) + "_" + command.substring(at + 1));
                }
            }
        }
        fault("go 1; go 0;", 5, 1, Expect.NOT_FOUND);
    }

    /** ""come" a lane, a place and a speed, "go" a lane, ..": one number less, and one more. */
    private static void asManyNumbersAsTold() {
        String[] words = {"come", "go", "speed", "jump", "wait"};
        int[] numbers = {3, 1, 2, 2, 1};
        for (int i = 0; i < words.length; i++) {
            StringBuilder text = new StringBuilder(words[i]);
            for (int count = 0; count <= 4; count++) {
                if (count != numbers[i]) {
                    notOfForm(text + ";");
                    notOfForm(text + " ;");
                }
                text.append(" 1");
            }
        }
        refused("come 1 1 1;", Expect.NOT_POSSIBLE);
        noFault("go 1;");
        noFault("speed 1 1;");
        noFault("jump 1 1;");
        noFault("wait 1;");
    }

    /** "numbers have one to four digits, 0 ahead allowed" */
    private static void oneToFourDigits() {
        String[][] around = {{"come ", " 0 0;"}, {"come 2 ", " 0;"}, {"come 2 0 ", ";"}, {"go ", ";"},
            {"speed ", " 0;"}, {"speed 1 ", ";"}, {"jump ", " 0;"}, {"jump 1 ", ";"}, {"wait ", ";"}};
        String[] lanes = {"", "2", "02", "002", "0002", "00002"};
        for (int i = 0; i < around.length; i++) {
            for (int digits = 0; digits <= 5; digits++) {
                String number = lanes[digits];
                // Two runners, in the lanes 0 and 1: of these alone something is told.
                if (i == 3 || i == 4 || i == 6) {
                    number = number.replace('2', '1');
                }
                String text = around[i][0] + number + around[i][1];
                if (digits == 0 || digits == 5) {
                    notOfForm(text);
                } else {
                    noFault(text);
                }
                String negative = around[i][0] + "-" + number + around[i][1];
                if (digits == 0 || digits == 5) {
                    notOfForm(negative);
                } else if (i == 0 || i == 3 || i == 4 || i == 6 || i == 8) {
                    refused(negative, Expect.INVALID);
                } else {
                    noFault(negative);
                }
            }
        }
        notOfForm("wait 00500;");
        notOfForm("come 2 10000 0;");
        notOfForm("come 2 -10000 0;");
        notOfForm("come 2 00000 0;");
        notOfForm("go 000000000000000000000000000000001;");
        notOfForm("go 4294967297;");
        zerosAhead();
    }

    private static void zerosAhead() {
        LeadRaces x = new LeadRaces();
        Expect.typeIn(x, "come 0007 0010 -009;speed 07 0080;jump 007 -0999;wait 0010;");
        due("four", x.play(), 4);
        due("place, not of base eight", x.runnerOf(7, 0), 10 - 999 + 800);
        due("speed", x.runnerOf(7, 1), 80);
        due("time", x.count(1), 10);
        Expect.newText(x, "come 0000 -0000 -0;come 1 9999 -99;come 2 -9999 99;");
        due("three", x.play(), 3);
        due("place of 0", x.runnerOf(0, 0), 0);
        due("speed of 0", x.runnerOf(0, 1), 0);
        due("place of 1", x.runnerOf(1, 0), 9999);
        due("speed of 1", x.runnerOf(1, 1), -99);
        due("place of 2", x.runnerOf(2, 0), -9999);
        due("speed of 2", x.runnerOf(2, 1), 99);
        Expect.newText(x, "come 3 1234 5;come 4 -6789 0;");
        due("two", x.play(), 2);
        due("all digits", x.runnerOf(3, 0), 1234);
        due("all digits", x.runnerOf(4, 0), -6789);
    }

    /** "perhaps with "-" ahead" */
    private static void minusAheadOnly() {
        String[] numbers = {"-", "--1", "1-", "-1-", "0-1", "+1", "- 1", "-+1", "+-1", "-a", "~1"};
        for (String number : numbers) {
            notOfForm("come " + number + " 0 0;");
            notOfForm("come 2 " + number + " 0;");
            notOfForm("come 2 0 " + number + ";");
            notOfForm("go " + number + ";");
            notOfForm("speed 1 " + number + ";");
            notOfForm("jump 1 " + number + ";");
            notOfForm("wait " + number + ";");
        }
        noFault("come 2 -1 -1;");
        noFault("go -0;");
        noFault("speed -0 -1;");
        noFault("jump 1 -0;");
        refused("wait -0;", Expect.INVALID);
        refused("wait -1;", Expect.INVALID);
    }

    /** The characters next to "0" and "9" are no digits. */
    private static void digitsAlone() {
        char[] digits = {'0', '1', '8', '9'};
        for (char digit : digits) {
            noFault("come 2 " + digit + " 0;");
        }
        char[] others = {'/', ':', '.', ',', 'a', 'O', ' ', '!'};
        for (char other : others) {
            notOfForm("come 2 " + other + " 0;");
            notOfForm("come 2 1" + other + " 0;");
            notOfForm("go " + other + ";");
            notOfForm("wait 1" + other + ";");
        }
    }

    /** The words are these five, in small letters; no other one of the face's calls is one. */
    private static void wordsAsTold() {
        for (String command : POSSIBLE) {
            int end = command.indexOf(' ');
            String word = command.substring(0, end);
            String rest = command.substring(end);
            notOfForm(word.toUpperCase() + rest);
            notOfForm(Character.toUpperCase(word.charAt(0)) + word.substring(1) + rest);
            notOfForm(word.substring(1) + rest);
            notOfForm(word.substring(0, word.length() - 1) + rest);
            notOfForm(word + "s" + rest);
            notOfForm("x" + word + rest);
            notOfForm(rest.substring(1));
            for (int at = 0; at < word.length(); at++) {
                notOfForm(word.substring(0, at) + (char) (word.charAt(at) + 1) + word.substring(at + 1) + rest);
                notOfForm(word.substring(0, at) + (char) (word.charAt(at) - 1) + word.substring(at + 1) + rest);
            }
        }
        String[] others = {"pause 1;", "undo;", "play;", "leader;", "goes 1;", "stop 1;", "move 1 1;"};
        for (String other : others) {
            notOfForm(other);
        }
    }

    /** "its cause is then the error code that the call returns for it": the ranges of the calls. */
    private static void rangesOfNumbers() {
        for (int lane = 2; lane < 8; lane++) {
            noFault("come " + lane + " 0 0;");
            refused("go " + lane + ";", Expect.NOT_POSSIBLE);
            refused("speed " + lane + " 0;", Expect.NOT_POSSIBLE);
            refused("jump " + lane + " 0;", Expect.NOT_POSSIBLE);
        }
        String[] lanes = {"8", "9", "-1", "-8", "9999", "-9999"};
        for (String lane : lanes) {
            refused("come " + lane + " 0 0;", Expect.INVALID);
            refused("go " + lane + ";", Expect.INVALID);
            refused("speed " + lane + " 0;", Expect.INVALID);
            refused("jump " + lane + " 0;", Expect.INVALID);
        }
        for (int sign = -1; sign <= 1; sign += 2) {
            noFault("come 2 " + sign * 9999 + " 0;");
            noFault("come 2 0 " + sign * 99 + ";");
            noFault("speed 1 " + sign * 99 + ";");
            noFault("jump 1 " + sign * 999 + ";");
            refused("come 2 0 " + sign * 100 + ";", Expect.INVALID);
            refused("speed 1 " + sign * 100 + ";", Expect.INVALID);
            refused("jump 1 " + sign * 1000 + ";", Expect.INVALID);
        }
        noFault("wait 1;");
        noFault("wait 500;");
        refused("wait 0;", Expect.INVALID);
        refused("wait 501;", Expect.INVALID);
        refused("wait 9999;", Expect.INVALID);
    }

    private static void refusedByState() {
        refused("come 0 0 0;", Expect.NOT_POSSIBLE);
        refused("come 1 -9999 99;", Expect.NOT_POSSIBLE);
        refused("come 1 0 100;", Expect.INVALID);
        refused("speed 7 100;", Expect.INVALID);
        refused("jump 7 1000;", Expect.INVALID);
        LeadRaces none = new LeadRaces();
        Expect.typeIn(none, "go 0;");
        faultOn(none, "go 0;", 0, 2, Expect.NOT_POSSIBLE);
        LeadRaces full = Setups.full();
        Expect.newText(full, "come 7 0 0;");
        faultOn(full, "come 7 0 0;", 0, 2, Expect.NOT_POSSIBLE);
    }

    /** The limits of jumps and of the time, also reached within the text. */
    private static void refusedByLimits() {
        for (int sign = -1; sign <= 1; sign += 2) {
            onFar(sign * 1000000, "jump 3 " + sign + ";", 0, Expect.LIMIT);
            onFar(sign * 1000000, "jump 3 0;", Expect.NOT_FOUND, Expect.NOT_FOUND);
            onFar(sign * 999999, "jump 3 " + sign + ";", Expect.NOT_FOUND, Expect.NOT_FOUND);
            onFar(sign * 999999, "jump 3 " + 2 * sign + ";", 0, Expect.LIMIT);
            String twice = "jump 3 " + sign + ";jump 3 " + sign + ";";
            onFar(sign * 999999, twice, twice.length() / 2, Expect.LIMIT);
            onFar(sign * 999998, twice, Expect.NOT_FOUND, Expect.NOT_FOUND);
        }
        onFar(0, "wait 8;", Expect.NOT_FOUND, Expect.NOT_FOUND);
        onFar(0, "wait 9;", 0, Expect.LIMIT);
        onFar(0, "wait 501;", 0, Expect.INVALID);
        onFar(0, "wait 4;wait 4;", Expect.NOT_FOUND, Expect.NOT_FOUND);
        onFar(0, "wait 4;wait 5;", 7, Expect.LIMIT);
        onFar(0, "wait 8;go 3;wait 1;", 12, Expect.LIMIT);
        onFar(1000000, "go 3;jump 3 9;", 5, Expect.NOT_POSSIBLE);
        onFar(1000000, "go 3;come 3 1 1;jump 3 9;", Expect.NOT_FOUND, Expect.NOT_FOUND);
    }

    /** In the moment 8992, with a runner in the lane 3 alone. */
    private static void onFar(int place, String text, int position, int cause) {
        LeadRaces x = Setups.far(place);
        Expect.typeIn(x, text);
        boolean isFault = position != Expect.NOT_FOUND;
        faultOn(x, text, position, isFault ? 2 : Expect.NOT_FOUND, cause);
    }

    /** "its reason is 1 if it is not of this form .., and otherwise 2" */
    private static void formRatherThanState() {
        notOfForm("go 7");
        notOfForm("go 9");
        notOfForm("come 0 0 0");
        notOfForm("come 0 0;");
        notOfForm("wait 0");
        notOfForm("wait 501,");
        notOfForm("jump 1 1000:");
    }

    /** "the position, from 0, of the first character of the first command that is not possible" */
    private static void positions() {
        StringBuilder ahead = new StringBuilder();
        String[] commands = {"wait 1;", "jump 0 1;", "speed 0 -5;", "come 2 0 0;", "go 2;", "wait 02;"};
        for (String command : commands) {
            int at = ahead.length();
            fault(ahead + "x", at, 1, Expect.NOT_FOUND);
            fault(ahead + "go 7;", at, 2, Expect.NOT_POSSIBLE);
            fault(ahead + "go 8;", at, 2, Expect.INVALID);
            noFault(ahead.toString());
            ahead.append(command);
        }
        noFault(ahead.toString());
    }

    /** In a text of 60 characters the last one, and the last command of one character's less. */
    private static void positionAtTheEnd() {
        String fiftyNine = FULL.replace("0003", "003");
        due("characters", fiftyNine.length(), 59);
        noFault(fiftyNine);
        fault(fiftyNine + "x", 59, 1, Expect.NOT_FOUND);
        fault(fiftyNine + ";", 59, 1, Expect.NOT_FOUND);
        fault(FULL.substring(0, 59), 51, 1, Expect.NOT_FOUND);
        fault(FULL.substring(0, 59) + "0", 51, 1, Expect.NOT_FOUND);
        fault(FULL.replace("500", "501"), 51, 2, Expect.INVALID);
        fault("jump 0 0001;jump 1 -0002;speed 0 0003;speed 1 -0004;go 0007;", 52, 2, Expect.NOT_POSSIBLE);
        fault("~".repeat(60), 0, 1, Expect.NOT_FOUND);
    }

    private static void ofTheFirstFault() {
        fault("go 7;x", 0, 2, Expect.NOT_POSSIBLE);
        fault("x;go 7;", 0, 1, Expect.NOT_FOUND);
        fault("go 1;go 1;go 8;", 5, 2, Expect.NOT_POSSIBLE);
        fault("go 1;go 8;go 1;", 5, 2, Expect.INVALID);
        fault("go 1;go 8;go", 5, 2, Expect.INVALID);
        fault("go 1;go;go 8;", 5, 1, Expect.NOT_FOUND);
    }

    /** "when those ahead of it are done" */
    private static void whenThoseAheadAreDone() {
        fault("go 2;", 0, 2, Expect.NOT_POSSIBLE);
        noFault("come 2 0 0;go 2;");
        fault("come 2 0 0;go 2;go 2;", 16, 2, Expect.NOT_POSSIBLE);
        fault("come 0 0 0;", 0, 2, Expect.NOT_POSSIBLE);
        noFault("go 0;come 0 0 0;");
        fault("go 0;come 0 0 0;come 0 0 0;", 16, 2, Expect.NOT_POSSIBLE);
        fault("go 0;speed 0 1;", 5, 2, Expect.NOT_POSSIBLE);
        fault("go 0;jump 0 1;", 5, 2, Expect.NOT_POSSIBLE);
        noFault("go 0;come 0 1 1;speed 0 1;jump 0 1;");
    }

    /** The fault is that of the present state, whatever was asked before. */
    private static void withTheStateOfNow() {
        LeadRaces x = new LeadRaces();
        Expect.typeIn(x, "wait 500;go 5;");
        due("none there", x.fault(0), 9);
        due("again", x.fault(0), 9);
        x.come(5, 0, 0);
        due("one there", x.fault(0), Expect.NOT_FOUND);
        for (int i = 0; i < 17; i++) {
            x.pause(500);
        }
        due("up to the limit", x.fault(0), Expect.NOT_FOUND);
        x.pause(1);
        due("beyond it: position", x.fault(0), 0);
        due("beyond it: cause", x.fault(2), Expect.LIMIT);
        x.undo();
        due("back", x.fault(0), Expect.NOT_FOUND);
        x.go(5);
        due("gone", x.fault(0), 9);
        due("gone: cause", x.fault(2), Expect.NOT_POSSIBLE);
        x.clearText();
        due("no text", x.fault(0), Expect.NOT_FOUND);
    }

    /** fault: "INVALID_ARGUMENT if what is out of range"; "what: 0 .. 2" */
    private static void faultRange() {
        String[] texts = {"", "x", "go 7;", "wait 1;"};
        int[] whats = {MIN, -2, -1, 3, 4, MAX};
        for (String text : texts) {
            for (int what : whats) {
                due("'" + text + "': fault(" + what + ")", Setups.withText(text).fault(what), Expect.INVALID);
            }
        }
    }

    /** play: "They are one change, also if there are none." */
    private static void playOfNothing() {
        LeadRaces x = new LeadRaces();
        due("nothing", x.play(), 0);
        due("one state", x.count(4), 1);
        due("again", x.play(), 0);
        due("two states", x.count(4), 2);
        due("undone", x.undo(), 1);
        due("undone", x.undo(), 0);
        LeadRaces y = Setups.busy();
        int[] before = Same.lookAtTrack(y);
        y.clearText();
        due("nothing", y.play(), 0);
        Same.compare("played nothing: ", Same.lookAtTrack(y), before);
        due("the oldest state is dropped", y.count(4), 4);
        y.undo();
        Same.compare("undone nothing: ", Same.lookAtTrack(y), before);
        due("three are left", y.count(4), 3);
    }

    /** play: "Returns how many there are in it" */
    private static void playReturnsHowMany() {
        StringBuilder text = new StringBuilder();
        for (int commands = 0; commands <= 8; commands++) {
            due(commands + " commands", Setups.withText(text.toString()).play(), commands);
            text.append("wait 1;");
        }
        LeadRaces full = Setups.full();
        Expect.newText(full, "go 0;go 1;go 2;go 3;go 4;go 5;go 6;go 7;wait 1;wait 2;");
        due("the most that are possible", full.play(), 10);
        due("time", full.count(1), 3);
        due("runners", full.count(0), 0);
        due("60 characters", Setups.withText(FULL).play(), 5);
    }

    private static void playIsOneChange() {
        LeadRaces x = Setups.withText("come 2 50 0;wait 3;go 2;jump 1 5;speed 0 9;wait 500;");
        LeadRaces twin = Setups.withText("");
        due("six commands", x.play(), 6);
        due("one state more", x.count(4), 3);
        due("time", x.count(1), 503);
        due("undone at once", x.undo(), 2);
        Same.compare("undone: ", Same.lookAtTrack(x), Same.lookAtTrack(twin));
        due("played again", x.play(), 6);
        due("time", x.count(1), 503);
    }

    /** play: "Does all commands of the text, which stays." */
    private static void playStays() {
        LeadRaces x = Setups.withText(FULL);
        for (int times = 1; times <= 18; times++) {
            due("play " + times, x.play(), 5);
            due("time", x.count(1), 500 * times);
            due("length", x.count(5), 60);
            due("states", x.count(4), Math.min(4, times + 2));
        }
        due("the time is over", x.play(), Expect.NOT_POSSIBLE);
        due("position", x.fault(0), 51);
        due("cause", x.fault(2), Expect.LIMIT);
        due("length", x.count(5), 60);
        due("time", x.count(1), 9000);
    }

    /** play: "NOT_POSSIBLE if it has a fault": whatever was done ahead of the fault. */
    private static void playRefused() {
        String[] faults = {"x", "go 7;", "wait 501;", "wait 1"};
        for (String last : faults) {
            String text = "go 0;come 3 9999 9;wait 20;" + last;
            LeadRaces x = Setups.withText(text);
            LeadRaces twin = Setups.withText(text);
            due("'" + text + "'", x.play(), Expect.NOT_POSSIBLE);
            due("'" + text + "' again", x.play(), Expect.NOT_POSSIBLE);
            Same.compare("'" + text + "': ", Same.look(x), Same.look(twin));
        }
    }

    /** Each command does what its call does, but for the states in the history. */
    private static void playAsTheCallsDo() {
        LeadRaces played = Setups.withText("come 7 12 0;wait 9;speed 7 5;jump 0 -30;wait 200;go 1;");
        LeadRaces called = Setups.withText("");
        due("six", played.play(), 6);
        called.come(7, 12, 0);
        called.pause(9);
        called.speed(7, 5);
        called.jump(0, -30);
        called.pause(200);
        called.go(1);
        Same.compare("played and called: ", Same.lookAtTrack(played), Same.lookAtTrack(called));
    }
}
