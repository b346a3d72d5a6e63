import java.util.ArrayList;
import java.util.List;
import java.util.regex.Matcher;
import java.util.regex.Pattern;

/**
 * The document once more, read as slowly as it stands there: moments go by one at a time, and
 * what would be is found by looking at every moment. ModelTest compares the program with it.
 */
final class Model {
    private static final class Runner {
        long place;
        long speed;
        int led;

        Runner copy() {
            Runner copy = new Runner();
            copy.place = place;
            copy.speed = speed;
            copy.led = led;
            return copy;
        }

        long placeIn(long moments) {
            return place + speed * moments;
        }
    }

    private static final class Race {
        int winner = -1;
        int other = -1;
        /** -1 for ever, or without two. */
        long end = -1;
        int runs;
        int last = -1;

        Race copy() {
            Race copy = new Race();
            copy.winner = winner;
            copy.other = other;
            copy.end = end;
            copy.runs = runs;
            copy.last = last;
            return copy;
        }
    }

    private static final class World {
        int time;
        Runner[] runners = new Runner[8];
        Race[] races = new Race[7];
        List<int[]> leaders = new ArrayList<>();
        int ledSoFar;

        World() {
            for (int i = 0; i < 7; i++) {
                races[i] = new Race();
            }
        }

        World copy() {
            World copy = new World();
            copy.time = time;
            copy.ledSoFar = ledSoFar;
            for (int i = 0; i < 8; i++) {
                copy.runners[i] = runners[i] == null ? null : runners[i].copy();
            }
            for (int i = 0; i < 7; i++) {
                copy.races[i] = races[i].copy();
            }
            copy.leaders.addAll(leaders);
            return copy;
        }

        boolean ahead(int a, int b, long moments) {
            long placeA = runners[a].placeIn(moments);
            long placeB = runners[b].placeIn(moments);
            return placeA > placeB || placeA == placeB && a < b;
        }

        int leaderIn(long moments) {
            for (int a = 0; a < 8; a++) {
                boolean leads = runners[a] != null;
                for (int b = 0; b < 8 && leads; b++) {
                    if (b != a && runners[b] != null && !ahead(a, b, moments)) {
                        leads = false;
                    }
                }
                if (leads) {
                    return a;
                }
            }
            return -1;
        }

        int runnerCount() {
            int n = 0;
            for (Runner runner : runners) {
                if (runner != null) {
                    n++;
                }
            }
            return n;
        }

        /** So many moments that nothing changes behind them. */
        long horizon() {
            long least = Long.MAX_VALUE;
            long most = Long.MIN_VALUE;
            for (Runner runner : runners) {
                if (runner != null) {
                    least = Math.min(least, runner.place);
                    most = Math.max(most, runner.place);
                }
            }
            return most < least ? 0 : most - least + 2;
        }

        void run(int race) {
            int[][] lanes = {{0, 1}, {2, 3}, {4, 5}, {6, 7}};
            int[][] before = {{0, 1}, {2, 3}, {4, 5}};
            int a;
            int b;
            if (race < 4) {
                a = runners[lanes[race][0]] == null ? -1 : lanes[race][0];
                b = runners[lanes[race][1]] == null ? -1 : lanes[race][1];
            } else {
                a = races[before[race - 4][0]].winner;
                b = races[before[race - 4][1]].winner;
            }
            Race it = races[race];
            it.runs++;
            it.last = time;
            it.end = -1;
            it.other = -1;
            if (a < 0 || b < 0) {
                it.winner = Math.max(a, b);
                return;
            }
            it.winner = ahead(a, b, 0) ? a : b;
            it.other = it.winner == a ? b : a;
            if (runners[it.other].speed > runners[it.winner].speed) {
                long moments = 1;
                while (!ahead(it.other, it.winner, moments)) {
                    moments++;
                }
                it.end = time + moments;
            }
        }

        void runForLane(int lane) {
            run(lane / 2);
            run(lane < 4 ? 4 : 5);
            run(6);
        }

        void note() {
            int now = races[6].winner;
            int before = leaders.isEmpty() ? -1 : leaders.get(0)[0];
            if (now != before) {
                leaders.add(0, new int[] {now, time});
                ledSoFar++;
                while (leaders.size() > 8) {
                    leaders.remove(8);
                }
            }
        }

        void moment() {
            time++;
            for (Runner runner : runners) {
                if (runner != null) {
                    runner.place += runner.speed;
                }
            }
            boolean[] other = new boolean[7];
            for (int race = 0; race < 7; race++) {
                boolean due = races[race].end == time;
                if (race == 4) {
                    due = due || other[0] || other[1];
                } else if (race == 5) {
                    due = due || other[2] || other[3];
                } else if (race == 6) {
                    due = due || other[4] || other[5];
                }
                if (due) {
                    int before = races[race].winner;
                    run(race);
                    other[race] = races[race].winner != before;
                }
            }
            if (races[6].winner >= 0) {
                runners[races[6].winner].led++;
            }
            note();
        }

        /** Does a command, or returns its error and changes nothing. */
        int act(String verb, int a, int b, int c) {
            if (verb.equals("wait")) {
                return act(a);
            }
            boolean fits = a >= 0 && a <= 7;
            if (verb.equals("come")) {
                fits = fits && b >= -9999 && b <= 9999 && c >= -99 && c <= 99;
            } else if (verb.equals("speed")) {
                fits = fits && b >= -99 && b <= 99;
            } else if (verb.equals("jump")) {
                fits = fits && b >= -999 && b <= 999;
            }
            if (!fits) {
                return Expect.INVALID;
            }
            if (verb.equals("come") == (runners[a] != null)) {
                return Expect.NOT_POSSIBLE;
            }
            int answer = 0;
            if (verb.equals("come")) {
                runners[a] = new Runner();
                runners[a].place = b;
                runners[a].speed = c;
            } else if (verb.equals("go")) {
                runners[a] = null;
            } else if (verb.equals("speed")) {
                answer = (int) runners[a].speed;
                runners[a].speed = b;
            } else {
                if (Math.abs(runners[a].place + b) > 1000000) {
                    return Expect.LIMIT;
                }
                runners[a].place += b;
            }
            runForLane(a);
            note();
            if (verb.equals("go")) {
                return runnerCount();
            }
            return verb.equals("speed") ? answer : races[6].winner;
        }

        int act(int moments) {
            if (moments < 1 || moments > 500) {
                return Expect.INVALID;
            }
            if (time + moments > 9000) {
                return Expect.LIMIT;
            }
            int changes = 0;
            for (int i = 0; i < moments; i++) {
                int before = races[6].winner;
                moment();
                if (races[6].winner != before) {
                    changes++;
                }
            }
            return changes;
        }
    }

    private static final Pattern COMMAND = Pattern.compile(
            "(come)( -?[0-9]{1,4})( -?[0-9]{1,4})( -?[0-9]{1,4});"
            + "|(speed|jump)( -?[0-9]{1,4})( -?[0-9]{1,4});"
            + "|(go|wait)( -?[0-9]{1,4});");

    private World world = new World();
    private final List<World> history = new ArrayList<>();
    private String text = "";

    int act(String verb, int a, int b, int c) {
        World after = world.copy();
        int answer = after.act(verb, a, b, c);
        if (answer > -1000) {
            keep(after);
        }
        return answer;
    }

    private void keep(World after) {
        history.add(world);
        if (history.size() > 4) {
            history.remove(0);
        }
        world = after;
    }

    int runnerOf(int lane, int what) {
        if (lane < 0 || lane > 7 || what < 0 || what > 4) {
            return Expect.INVALID;
        }
        Runner runner = world.runners[lane];
        if (runner == null) {
            return Expect.NOT_FOUND;
        }
        int rank = 0;
        for (int other = 0; other < 8; other++) {
            if (other != lane && world.runners[other] != null && world.ahead(other, lane, 0)) {
                rank++;
            }
        }
        long gap = world.runners[world.leaderIn(0)].place - runner.place;
        long[] answers = {runner.place, runner.speed, rank, gap, runner.led};
        return (int) answers[what];
    }

    int raceOf(int race, int what) {
        if (race < 0 || race > 6 || what < 0 || what > 4) {
            return Expect.INVALID;
        }
        Race it = world.races[race];
        long[] answers = {it.winner, it.other, it.end, it.runs, it.last};
        return answers[what] < 0 ? Expect.NOT_FOUND : (int) answers[what];
    }

    int leader() {
        int lane = world.leaderIn(0);
        return lane < 0 ? Expect.NOT_FOUND : lane;
    }

    int ledBy(int index, int what) {
        if (index < 0 || what < 0 || what > 1) {
            return Expect.INVALID;
        }
        return index < world.leaders.size() ? world.leaders.get(index)[what] : Expect.NOT_FOUND;
    }

    int count(int what) {
        int runs = 0;
        int forEver = 0;
        for (int race = 0; race < 7; race++) {
            runs += world.races[race].runs;
            if (world.races[race].other >= 0 && world.races[race].end < 0) {
                forEver += 1 << race;
            }
        }
        int[] answers = {world.runnerCount(), world.time, runs, world.ledSoFar, history.size(),
            text.length(), forEver};
        return what < 0 || what > 6 ? Expect.INVALID : answers[what];
    }

    int leadsAt(int moment) {
        if (moment < world.time || moment > 20000) {
            return Expect.INVALID;
        }
        int lane = world.leaderIn(moment - world.time);
        return lane < 0 ? Expect.NOT_FOUND : lane;
    }

    private List<int[]> rowOfLeaders() {
        List<int[]> row = new ArrayList<>();
        long horizon = world.horizon();
        int before = -1;
        for (long moments = 0; moments <= horizon; moments++) {
            int lane = world.leaderIn(moments);
            if (lane != before) {
                row.add(new int[] {lane, (int) (world.time + moments)});
            }
            before = lane;
        }
        return row;
    }

    int settledAt() {
        List<int[]> row = rowOfLeaders();
        return row.isEmpty() ? Expect.NOT_FOUND : row.get(row.size() - 1)[1];
    }

    int row(int index, int what) {
        if (index < 0 || what < 0 || what > 1) {
            return Expect.INVALID;
        }
        List<int[]> row = rowOfLeaders();
        return index < row.size() ? row.get(index)[what] : Expect.NOT_FOUND;
    }

    /** Lets moments go by until a race is run again. */
    int nextRun() {
        World later = world.copy();
        long horizon = world.horizon();
        for (long moments = 0; moments <= horizon; moments++) {
            later.moment();
            for (Race race : later.races) {
                if (race.last == later.time) {
                    return later.time;
                }
            }
        }
        return Expect.NOT_FOUND;
    }

    int meanBits() {
        long sum = 0;
        for (Runner runner : world.runners) {
            sum += runner == null ? 0 : runner.place;
        }
        int n = world.runnerCount();
        return n == 0 ? Expect.NOT_FOUND : Float.floatToIntBits((float) sum / (float) n);
    }

    int undo() {
        if (history.isEmpty()) {
            return Expect.NOT_POSSIBLE;
        }
        world = history.remove(history.size() - 1);
        return history.size();
    }

    int type(int character) {
        if (character < 32 || character > 126) {
            return Expect.INVALID;
        }
        if (text.length() >= 60) {
            return Expect.LIMIT;
        }
        text += (char) character;
        return text.length();
    }

    int clearText() {
        int length = text.length();
        text = "";
        return length;
    }

    /** Returns position, reason, cause and how many were done; the position is -1 without a fault. */
    private int[] doText(World on) {
        Matcher matcher = COMMAND.matcher(text);
        int at = 0;
        int done = 0;
        while (at < text.length()) {
            if (!matcher.find(at) || matcher.start() != at) {
                return new int[] {at, 1, Expect.NOT_FOUND, done};
            }
            String[] words = matcher.group().replace(";", "").split(" ");
            int[] numbers = new int[3];
            for (int i = 1; i < words.length; i++) {
                numbers[i - 1] = Integer.parseInt(words[i]);
            }
            int answer = on.act(words[0], numbers[0], numbers[1], numbers[2]);
            if (answer < -1000) {
                return new int[] {at, 2, answer, done};
            }
            at = matcher.end();
            done++;
        }
        return new int[] {-1, 0, 0, done};
    }

    int fault(int what) {
        if (what < 0 || what > 2) {
            return Expect.INVALID;
        }
        int[] found = doText(world.copy());
        return found[0] < 0 ? Expect.NOT_FOUND : found[what];
    }

    int play() {
        World after = world.copy();
        int[] found = doText(after);
        if (found[0] >= 0) {
            return Expect.NOT_POSSIBLE;
        }
        keep(after);
        return found[3];
    }
}
