import java.util.Arrays;

/** Runners on a line, and races between neighbours that tell who is ahead of all. */
public final class LeadRaces {
    public static final int INVALID_ARGUMENT = -10000001;
    public static final int NOT_POSSIBLE = -10000002;
    public static final int LIMIT_REACHED = -10000003;
    public static final int NOT_FOUND = -10000004;

    private static final int LANES = 8;
    private static final int RACES = 7;
    private static final int FIRST_RACE_OF_WINNERS = 4;
    private static final int LAST_RACE = 6;
    private static final int MOST_PLACE_OF_COMER = 9999;
    private static final int MOST_SPEED = 99;
    private static final int MOST_WAY = 999;
    private static final int MOST_PLACE_OF_JUMPER = 1000000;
    private static final int MOST_MOMENTS = 500;
    private static final int MOST_TIME = 9000;
    private static final int MOST_TIME_ASKED = 20000;
    private static final int LEADERS_KEPT = 8;
    private static final int STATES_KEPT = 4;
    private static final int TEXT_LENGTH = 60;
    private static final int MOST_DIGITS = 4;

    private static final int NONE = -1;
    private static final int FOR_EVER = 0x7fffffff;

    private static final int NO_FAULT = 0;
    private static final int NOT_OF_FORM = 1;
    private static final int REFUSED = 2;

    private static final Verb[] VERBS = Verb.values();

    private Track track = new Track();
    /** Changes are tried here first, so that a call that returns an error leaves the track alone. */
    private Track trial = new Track();
    private final Past past = new Past();
    private final Script script = new Script();
    private final Outlook outlook = new Outlook();

    /** Creates lanes without runners, at the moment 0. */
    public LeadRaces() {
    }

    // ---- runners

    /** A runner comes; returns the lane of the leader then. */
    public int come(int lane, int place, int speed) {
        return change(Verb.COME, lane, place, speed);
    }

    /** A runner goes; returns how many are left. */
    public int go(int lane) {
        return change(Verb.GO, lane, 0, 0);
    }

    /** Sets the speed of a runner; returns what it was. */
    public int speed(int lane, int speed) {
        return change(Verb.SPEED, lane, speed, 0);
    }

    /** A runner jumps; returns the lane of the leader then. */
    public int jump(int lane, int way) {
        return change(Verb.JUMP, lane, way, 0);
    }

    /** Lets moments go by; returns how often another runner leads than in the moment before. */
    public int pause(int moments) {
        return change(Verb.WAIT, moments, 0, 0);
    }

    // ---- what there is

    /** Returns something of a runner. */
    public int runnerOf(int lane, int what) {
        if (isOutside(lane, 0, LANES - 1) || isOutside(what, 0, 4)) {
            return INVALID_ARGUMENT;
        }
        if (!track.here[lane]) {
            return NOT_FOUND;
        }
        switch (what) {
            case 0:
                return track.places[lane];
            case 1:
                return track.speeds[lane];
            case 2:
                return track.rankOf(lane);
            case 3:
                return track.behindLeader(lane);
            default:
                return track.led[lane];
        }
    }

    /** Returns something of a race. */
    public int raceOf(int race, int what) {
        if (isOutside(race, 0, RACES - 1) || isOutside(what, 0, 4)) {
            return INVALID_ARGUMENT;
        }
        switch (what) {
            case 0:
                return foundUnless(NONE, track.winners[race]);
            case 1:
                return foundUnless(NONE, track.others[race]);
            case 2:
                return foundUnless(FOR_EVER, track.ends[race]);
            case 3:
                return track.runs[race];
            default:
                return foundUnless(NONE, track.lastRuns[race]);
        }
    }

    /** Returns the lane of the leader. */
    public int leader() {
        return foundUnless(NONE, track.leading());
    }

    /** Returns something of the latest leaders. */
    public int ledBy(int index, int what) {
        if (index < 0 || isOutside(what, 0, 1)) {
            return INVALID_ARGUMENT;
        }
        if (index >= LEADERS_KEPT || index >= track.putDown) {
            return NOT_FOUND;
        }
        int slot = Track.slotOf(track.putDown - 1 - index);
        return what == 0 ? track.keptLanes[slot] : track.keptMoments[slot];
    }

    /** Returns a number. */
    public int count(int what) {
        switch (what) {
            case 0:
                return track.runners();
            case 1:
                return track.time;
            case 2:
                return track.runsOfAll();
            case 3:
                return track.putDown;
            case 4:
                return past.size;
            case 5:
                return script.length;
            case 6:
                return track.racesForEver();
            default:
                return INVALID_ARGUMENT;
        }
    }

    // ---- what would be

    /** Tells who would lead at a moment, by all places alone. */
    public int leadsAt(int moment) {
        if (isOutside(moment, track.time, MOST_TIME_ASKED)) {
            return INVALID_ARGUMENT;
        }
        return foundUnless(NONE, track.leaderAt(moment));
    }

    /** Tells the first moment from which on one runner leads for ever. */
    public int settledAt() {
        outlook.look(track);
        return outlook.size == 0 ? NOT_FOUND : outlook.moments[outlook.size - 1];
    }

    /** Returns something of the row of leaders from now on. */
    public int row(int index, int what) {
        if (index < 0 || isOutside(what, 0, 1)) {
            return INVALID_ARGUMENT;
        }
        outlook.look(track);
        if (index >= outlook.size) {
            return NOT_FOUND;
        }
        return what == 0 ? outlook.lanes[index] : outlook.moments[index];
    }

    /** Tells the next moment in which any race would be run again. */
    public int nextRun() {
        return foundUnless(FOR_EVER, track.firstEnd());
    }

    /** Returns the bits of the mean place of all runners, as a float. */
    public int meanBits() {
        int runners = track.runners();
        if (runners == 0) {
            return NOT_FOUND;
        }
        return bitsOf((float) track.sumOfPlaces() / (float) runners);
    }

    /** Restores the latest state of the history; returns how many are left. */
    public int undo() {
        if (past.size == 0) {
            return NOT_POSSIBLE;
        }
        track = past.takeBack(track);
        return past.size;
    }

    // ---- texts

    /** Appends a character to the text; returns its length. */
    public int type(int character) {
        if (isOutside(character, 32, 126)) {
            return INVALID_ARGUMENT;
        }
        if (script.length >= TEXT_LENGTH) {
            return LIMIT_REACHED;
        }
        script.append((char) character);
        return script.length;
    }

    /** Empties the text; returns the length it had. */
    public int clearText() {
        int length = script.length;
        script.length = 0;
        return length;
    }

    /** Tells about the fault of the text. */
    public int fault(int what) {
        if (isOutside(what, 0, 2)) {
            return INVALID_ARGUMENT;
        }
        trial.copyFrom(track);
        script.runOn(trial);
        if (script.reason == NO_FAULT) {
            return NOT_FOUND;
        }
        switch (what) {
            case 0:
                return script.position;
            case 1:
                return script.reason;
            default:
                return script.reason == REFUSED ? script.answer : NOT_FOUND;
        }
    }

    /** Does all commands of the text as one change; returns how many there are. */
    public int play() {
        trial.copyFrom(track);
        script.runOn(trial);
        if (script.reason != NO_FAULT) {
            return NOT_POSSIBLE;
        }
        acceptTrial();
        return script.commands;
    }

    // ---- helpers

    private int change(Verb verb, int first, int second, int third) {
        trial.copyFrom(track);
        int answer = verb.doOn(trial, first, second, third);
        if (!isError(answer)) {
            acceptTrial();
        }
        return answer;
    }

    private void acceptTrial() {
        Track before = track;
        track = trial;
        trial = past.keep(before);
    }

    private static boolean isOutside(int value, int least, int most) {
        return value < least || value > most;
    }

    /** No answer of a call but the four error codes is so small. */
    private static boolean isError(int answer) {
        return answer <= INVALID_ARGUMENT;
    }

    private static int foundUnless(int missing, int value) {
        return value == missing ? NOT_FOUND : value;
    }

    /** The bits of a float that is 0 or from 1/8 to some millions, of either sign. */
    private static int bitsOf(float value) {
        if (value == 0) {
            return 0;
        }
        float rest = value < 0 ? -value : value;
        int exponent = 127;
        for (int i = 0; i < 127 && rest >= 2; i++) {
            rest = rest / 2;
            exponent++;
        }
        for (int i = 0; i < 126 && rest < 1; i++) {
            rest = rest * 2;
            exponent--;
        }
        int fraction = (int) ((rest - 1) * 8388608);
        int sign = value < 0 ? 1 << 31 : 0;
        return sign | exponent << 23 | fraction;
    }

    /** What a command of a text, or a call of the face, does on a track. */
    private enum Verb {
        COME("come", 3) {
            int doOn(Track track, int first, int second, int third) {
                return track.enter(first, second, third);
            }
        },
        GO("go", 1) {
            int doOn(Track track, int first, int second, int third) {
                return track.leave(first);
            }
        },
        SPEED("speed", 2) {
            int doOn(Track track, int first, int second, int third) {
                return track.changeSpeed(first, second);
            }
        },
        JUMP("jump", 2) {
            int doOn(Track track, int first, int second, int third) {
                return track.leap(first, second);
            }
        },
        WAIT("wait", 1) {
            int doOn(Track track, int first, int second, int third) {
                return track.pass(first);
            }
        };

        final String word;
        final int numbers;

        Verb(String word, int numbers) {
            this.word = word;
            this.numbers = numbers;
        }

        /** Returns what the call of the face returns. */
        abstract int doOn(Track track, int first, int second, int third);
    }

    /** All that a change records: the time, the runners, the races, and the latest leaders. */
    private static final class Track {
        int time;
        final boolean[] here = new boolean[LANES];
        final int[] places = new int[LANES];
        final int[] speeds = new int[LANES];
        final int[] led = new int[LANES];
        final int[] winners = new int[RACES];
        final int[] others = new int[RACES];
        /** The moments up to which the races hold, FOR_EVER also for those without two. */
        final int[] ends = new int[RACES];
        final int[] runs = new int[RACES];
        final int[] lastRuns = new int[RACES];
        int putDown;
        final int[] keptLanes = new int[LEADERS_KEPT];
        final int[] keptMoments = new int[LEADERS_KEPT];

        Track() {
            Arrays.fill(winners, NONE);
            Arrays.fill(others, NONE);
            Arrays.fill(ends, FOR_EVER);
            Arrays.fill(lastRuns, NONE);
        }

        void copyFrom(Track source) {
            time = source.time;
            System.arraycopy(source.here, 0, here, 0, LANES);
            System.arraycopy(source.places, 0, places, 0, LANES);
            System.arraycopy(source.speeds, 0, speeds, 0, LANES);
            System.arraycopy(source.led, 0, led, 0, LANES);
            System.arraycopy(source.winners, 0, winners, 0, RACES);
            System.arraycopy(source.others, 0, others, 0, RACES);
            System.arraycopy(source.ends, 0, ends, 0, RACES);
            System.arraycopy(source.runs, 0, runs, 0, RACES);
            System.arraycopy(source.lastRuns, 0, lastRuns, 0, RACES);
            putDown = source.putDown;
            System.arraycopy(source.keptLanes, 0, keptLanes, 0, LEADERS_KEPT);
            System.arraycopy(source.keptMoments, 0, keptMoments, 0, LEADERS_KEPT);
        }

        int enter(int lane, int place, int speed) {
            if (isOutside(lane, 0, LANES - 1)
                    || isOutside(place, -MOST_PLACE_OF_COMER, MOST_PLACE_OF_COMER)
                    || isOutside(speed, -MOST_SPEED, MOST_SPEED)) {
                return INVALID_ARGUMENT;
            }
            if (here[lane]) {
                return NOT_POSSIBLE;
            }
            here[lane] = true;
            places[lane] = place;
            speeds[lane] = speed;
            led[lane] = 0;
            runRacesOf(lane);
            return leading();
        }

        int leave(int lane) {
            if (isOutside(lane, 0, LANES - 1)) {
                return INVALID_ARGUMENT;
            }
            if (!here[lane]) {
                return NOT_POSSIBLE;
            }
            here[lane] = false;
            runRacesOf(lane);
            return runners();
        }

        int changeSpeed(int lane, int speed) {
            if (isOutside(lane, 0, LANES - 1) || isOutside(speed, -MOST_SPEED, MOST_SPEED)) {
                return INVALID_ARGUMENT;
            }
            if (!here[lane]) {
                return NOT_POSSIBLE;
            }
            int before = speeds[lane];
            speeds[lane] = speed;
            runRacesOf(lane);
            return before;
        }

        int leap(int lane, int way) {
            if (isOutside(lane, 0, LANES - 1) || isOutside(way, -MOST_WAY, MOST_WAY)) {
                return INVALID_ARGUMENT;
            }
            if (!here[lane]) {
                return NOT_POSSIBLE;
            }
            int place = places[lane] + way;
            if (isOutside(place, -MOST_PLACE_OF_JUMPER, MOST_PLACE_OF_JUMPER)) {
                return LIMIT_REACHED;
            }
            places[lane] = place;
            runRacesOf(lane);
            return leading();
        }

        int pass(int moments) {
            if (isOutside(moments, 1, MOST_MOMENTS)) {
                return INVALID_ARGUMENT;
            }
            if (time + moments > MOST_TIME) {
                return LIMIT_REACHED;
            }
            int changes = 0;
            int left = moments;
            while (left > 0) {
                // No race ends ahead of the step's last moment, so those moments can go by at once.
                int step = Math.max(1, Math.min(left, firstEnd() - time));
                left -= step;
                addLed(step - 1);
                moveBy(step);
                runDueRaces();
                addLed(1);
                if (putDownLeader()) {
                    changes++;
                }
            }
            return changes;
        }

        int leading() {
            return winners[LAST_RACE];
        }

        int runners() {
            int number = 0;
            for (int lane = 0; lane < LANES; lane++) {
                if (here[lane]) {
                    number++;
                }
            }
            return number;
        }

        int runsOfAll() {
            int sum = 0;
            for (int race = 0; race < RACES; race++) {
                sum += runs[race];
            }
            return sum;
        }

        int racesForEver() {
            int set = 0;
            for (int race = 0; race < RACES; race++) {
                if (others[race] != NONE && ends[race] == FOR_EVER) {
                    set |= 1 << race;
                }
            }
            return set;
        }

        int sumOfPlaces() {
            int sum = 0;
            for (int lane = 0; lane < LANES; lane++) {
                if (here[lane]) {
                    sum += places[lane];
                }
            }
            return sum;
        }

        int rankOf(int lane) {
            int ahead = 0;
            for (int other = 0; other < LANES; other++) {
                if (here[other] && isAhead(other, lane)) {
                    ahead++;
                }
            }
            return ahead;
        }

        int behindLeader(int lane) {
            int leading = leading();
            return leading == NONE ? 0 : places[leading] - places[lane];
        }

        int leaderAt(int moment) {
            int best = NONE;
            int bestPlace = 0;
            for (int lane = 0; lane < LANES; lane++) {
                if (!here[lane]) {
                    continue;
                }
                int place = places[lane] + speeds[lane] * (moment - time);
                if (best == NONE || place > bestPlace) {
                    best = lane;
                    bestPlace = place;
                }
            }
            return best;
        }

        /** The first moment up to which a race holds, FOR_EVER if there is none. */
        int firstEnd() {
            int first = FOR_EVER;
            for (int race = 0; race < RACES; race++) {
                if (ends[race] < first) {
                    first = ends[race];
                }
            }
            return first;
        }

        /**
         * The first moment in which any runner is ahead of one who leads now or at a later moment,
         * FOR_EVER if there is none.
         */
        int endOfLead(int leading) {
            // Those who are faster than one who leads later on are behind it now, too.
            int first = FOR_EVER;
            for (int lane = 0; lane < LANES; lane++) {
                if (here[lane] && lane != leading) {
                    int moment = overtakenAt(leading, lane);
                    if (moment < first) {
                        first = moment;
                    }
                }
            }
            return first;
        }

        /**
         * The first moment later than now in which the one behind is ahead of the one in front,
         * FOR_EVER if there is none.
         */
        private int overtakenAt(int front, int behind) {
            int gain = speeds[behind] - speeds[front];
            if (gain <= 0) {
                return FOR_EVER;
            }
            int gap = places[front] - places[behind];
            int way = behind < front ? gap : gap + 1;
            return time + (way + gain - 1) / gain;
        }

        private boolean isAhead(int lane, int than) {
            if (places[lane] == places[than]) {
                return lane < than;
            }
            return places[lane] > places[than];
        }

        private void moveBy(int moments) {
            time += moments;
            for (int lane = 0; lane < LANES; lane++) {
                if (here[lane]) {
                    places[lane] += speeds[lane] * moments;
                }
            }
        }

        private void addLed(int moments) {
            int leading = leading();
            if (leading != NONE) {
                led[leading] += moments;
            }
        }

        private void runDueRaces() {
            int changed = 0;
            for (int race = 0; race < RACES; race++) {
                boolean fed = race >= FIRST_RACE_OF_WINNERS && (changed & racesAhead(race)) != 0;
                if (fed || ends[race] == time) {
                    int before = winners[race];
                    runRace(race);
                    if (winners[race] != before) {
                        changed |= 1 << race;
                    }
                }
            }
        }

        /** The two races whose winners run in a race, as a set. */
        private static int racesAhead(int race) {
            return 3 << 2 * (race - FIRST_RACE_OF_WINNERS);
        }

        private void runRacesOf(int lane) {
            runRace(lane / 2);
            runRace(FIRST_RACE_OF_WINNERS + lane / 4);
            runRace(LAST_RACE);
            putDownLeader();
        }

        private void runRace(int race) {
            int first = contender(race, 0);
            int second = contender(race, 1);
            boolean secondWins = second != NONE && (first == NONE || isAhead(second, first));
            int winner = secondWins ? second : first;
            int other = secondWins ? first : second;
            boolean hasTwo = winner != NONE && other != NONE;
            winners[race] = winner;
            others[race] = other;
            ends[race] = hasTwo ? overtakenAt(winner, other) : FOR_EVER;
            runs[race]++;
            lastRuns[race] = time;
        }

        private int contender(int race, int side) {
            if (race >= FIRST_RACE_OF_WINNERS) {
                return winners[2 * (race - FIRST_RACE_OF_WINNERS) + side];
            }
            int lane = 2 * race + side;
            return here[lane] ? lane : NONE;
        }

        /** Puts the leader down if it is another one than before, and tells whether it is. */
        private boolean putDownLeader() {
            int before = putDown == 0 ? NONE : keptLanes[slotOf(putDown - 1)];
            if (leading() == before) {
                return false;
            }
            int slot = slotOf(putDown);
            keptLanes[slot] = leading();
            keptMoments[slot] = time;
            putDown++;
            return true;
        }

        /** Where the leader that was put down as the given one, from 0, is kept. */
        static int slotOf(int number) {
            return Math.floorMod(number, LEADERS_KEPT);
        }
    }

    /** The history. Its tracks change hands with those in use, so that none is ever made anew. */
    private static final class Past {
        final Track[] tracks = new Track[STATES_KEPT];
        int size;

        Past() {
            for (int i = 0; i < STATES_KEPT; i++) {
                tracks[i] = new Track();
            }
        }

        /** Keeps a track as the latest one, and returns one that is free for use. */
        Track keep(Track latest) {
            if (size < STATES_KEPT) {
                Track free = tracks[size];
                tracks[size] = latest;
                size++;
                return free;
            }
            Track oldest = tracks[0];
            for (int i = 1; i < STATES_KEPT; i++) {
                tracks[i - 1] = tracks[i];
            }
            tracks[STATES_KEPT - 1] = latest;
            return oldest;
        }

        /** Takes the latest track out, for one that is not in use any more. */
        Track takeBack(Track unused) {
            if (size == 0) {
                return unused;
            }
            size--;
            Track latest = tracks[size];
            tracks[size] = unused;
            return latest;
        }
    }

    /** The row of leaders from now on, if nothing else happened. */
    private static final class Outlook {
        final int[] lanes = new int[LANES];
        final int[] moments = new int[LANES];
        int size;

        void look(Track track) {
            int moment = track.time;
            // Each one in the row is faster than the one before, so there are no more than lanes.
            for (size = 0; size < LANES && moment != FOR_EVER; size++) {
                int lane = track.leaderAt(moment);
                if (lane == NONE) {
                    return;
                }
                lanes[size] = lane;
                moments[size] = moment;
                moment = track.endOfLead(lane);
            }
        }
    }

    /** The text, and how far its commands can be done. */
    private static final class Script {
        final char[] text = new char[TEXT_LENGTH];
        int length;
        int commands;
        int position;
        int reason;
        int answer;
        private int at;
        private final int[] numbers = new int[3];

        void append(char character) {
            if (length < TEXT_LENGTH) {
                text[length] = character;
                length++;
            }
        }

        /** Does the commands on a track, up to the first one that is not possible. */
        void runOn(Track track) {
            at = 0;
            commands = 0;
            reason = NO_FAULT;
            while (at < length && commands < TEXT_LENGTH) {
                position = at;
                Verb verb = readCommand();
                if (verb == null) {
                    reason = NOT_OF_FORM;
                    return;
                }
                answer = verb.doOn(track, numbers[0], numbers[1], numbers[2]);
                if (isError(answer)) {
                    reason = REFUSED;
                    return;
                }
                commands++;
            }
        }

        /** Reads a command with its ";"; null if it is not of the form. */
        private Verb readCommand() {
            Verb verb = readWord();
            if (verb == null) {
                return null;
            }
            for (int i = 0; i < verb.numbers && i < numbers.length; i++) {
                if (!skip(' ') || !readNumber(i)) {
                    return null;
                }
            }
            return skip(';') ? verb : null;
        }

        /** No word begins with another one, so the first that fits is the one. */
        private Verb readWord() {
            for (int i = 0; i < VERBS.length; i++) {
                if (skipWord(VERBS[i].word)) {
                    return VERBS[i];
                }
            }
            return null;
        }

        private boolean readNumber(int index) {
            boolean negative = skip('-');
            int value = 0;
            int digits = 0;
            while (digits < MOST_DIGITS && isDigit(characterAt(at))) {
                value = 10 * value + (characterAt(at) - '0');
                at++;
                digits++;
            }
            numbers[index] = negative ? -value : value;
            return digits > 0;
        }

        private boolean skip(char character) {
            if (characterAt(at) != character) {
                return false;
            }
            at++;
            return true;
        }

        private boolean skipWord(String word) {
            for (int i = 0; i < word.length(); i++) {
                if (characterAt(at + i) != word.charAt(i)) {
                    return false;
                }
            }
            at += word.length();
            return true;
        }

        /** Behind the text there is the character 0, which no text holds. */
        private char characterAt(int index) {
            return index >= 0 && index < length ? text[index] : (char) 0;
        }

        private static boolean isDigit(char character) {
            return character >= '0' && character <= '9';
        }
    }
}
