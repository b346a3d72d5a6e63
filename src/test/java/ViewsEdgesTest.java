/** The boundaries of the promises 7 to 11; RefusedTest has that looking changes nothing. */
public final class ViewsEdgesTest {
    private static final int MIN = Integer.MIN_VALUE;
    private static final int MAX = Integer.MAX_VALUE;

    public static void main(String[] args) {
        runnerOfRanges();
        runnerOfNone();
        placesAndSpeedsAtTheirMost();
        ranksOfEight();
        gapsOfEight();
        ledSinceTheRunnerCame();
        ledInTheMomentOfOvertaking();
        ledOfTextsAndUndo();
        raceOfRanges();
        raceOfNotFound();
        raceNeverRun();
        raceRunCounts();
        leaderOfNone();
        ledByRanges();
        ledByNoneOneAndTwo();
        ledByPutsDownOthersAlone();
        ledByNoneAnyMore();
        ledByKeepsEight();
        ledByOfTexts();
        countRange();
        countOfRunnersAndTime();
        countOfRacesRun();
        countOfStatesAndText();
        countOfForEver();
        Expect.finish();
    }

    private static void due(String call, int got, int want) {
        Expect.due(call, got, want);
    }

    /** runnerOf: "lane: 0 to 7", "what: 0 .. 4" */
    private static void runnerOfRanges() {
        LeadRaces x = Setups.full();
        int[] lanes = {MIN, -2, -1, 8, 9, MAX};
        int[] whats = {MIN, -2, -1, 5, 6, MAX};
        for (int lane : lanes) {
            due("runnerOf(" + lane + ", 0)", x.runnerOf(lane, 0), Expect.INVALID);
            due("runnerOf(" + lane + ", 4)", x.runnerOf(lane, 4), Expect.INVALID);
            due("runnerOf(" + lane + ", 5)", x.runnerOf(lane, 5), Expect.INVALID);
        }
        for (int what : whats) {
            due("runnerOf(0, " + what + ")", x.runnerOf(0, what), Expect.INVALID);
            due("runnerOf(7, " + what + ")", x.runnerOf(7, what), Expect.INVALID);
        }
        int[] first = {5, 0, 0, 0, 0};
        int[] last = {-44, 14, 7, 49, 0};
        for (int what = 0; what < 5; what++) {
            due("runnerOf(0, " + what + ")", x.runnerOf(0, what), first[what]);
            due("runnerOf(7, " + what + ")", x.runnerOf(7, what), last[what]);
        }
    }

    /** runnerOf: "NOT_FOUND if there is none in this lane" */
    private static void runnerOfNone() {
        for (int lane = 0; lane < 8; lane++) {
            LeadRaces x = Setups.full();
            x.pause(2);
            x.go(lane);
            for (int what = 0; what < 5; what++) {
                due("who went", x.runnerOf(lane, what), Expect.NOT_FOUND);
                due("who did not", x.runnerOf((lane + 1) % 8, what) == Expect.NOT_FOUND ? 1 : 0, 0);
            }
            due("out of range first", x.runnerOf(lane, 5), Expect.INVALID);
            due("out of range first", x.runnerOf(lane, -1), Expect.INVALID);
        }
    }

    private static void placesAndSpeedsAtTheirMost() {
        for (int sign = -1; sign <= 1; sign += 2) {
            LeadRaces x = Setups.far(sign * 1000000);
            due("most place", x.runnerOf(3, 0), sign * 1000000);
            x.come(0, -sign * 9999, 0);
            due("gap of the one behind", x.runnerOf(sign < 0 ? 3 : 0, 3), 1009999);
            due("gap of the leader", x.runnerOf(sign < 0 ? 0 : 3, 3), 0);
        }
        // From the farthest places of those who come, through all moments.
        LeadRaces y = new LeadRaces();
        y.come(6, 9999, 99);
        y.come(7, -9999, -99);
        for (int i = 0; i < 18; i++) {
            y.pause(500);
        }
        due("place of 6", y.runnerOf(6, 0), 900999);
        due("place of 7", y.runnerOf(7, 0), -900999);
        due("gap of 7", y.runnerOf(7, 3), 1801998);
        due("led by 6", y.runnerOf(6, 4), 9000);
        due("led by 7", y.runnerOf(7, 4), 0);
    }

    /** runnerOf, 2: "the rank: how many are ahead" */
    private static void ranksOfEight() {
        LeadRaces x = new LeadRaces();
        int[] places = {3, 5, 3, -9, 5, 4, 3, 6};
        int[] ranks = {4, 1, 5, 7, 2, 3, 6, 0};
        for (int lane = 0; lane < 8; lane++) {
            x.come(lane, places[lane], 0);
        }
        for (int lane = 0; lane < 8; lane++) {
            due("rank of " + lane, x.runnerOf(lane, 2), ranks[lane]);
        }
        LeadRaces y = new LeadRaces();
        for (int lane = 7; lane >= 0; lane--) {
            y.come(lane, 0, 0);
            due("one more, in the lowest lane", y.runnerOf(lane, 2), 0);
            due("rank of the lane 7", y.runnerOf(7, 2), 7 - lane);
        }
        for (int lane = 0; lane < 7; lane++) {
            y.go(lane);
            due("one less", y.runnerOf(7, 2), 6 - lane);
        }
    }

    /** runnerOf, 3: "by how much the leader's place is greater" */
    private static void gapsOfEight() {
        LeadRaces x = new LeadRaces();
        int[] places = {-9999, 9999, 9998, 9999, 0, -1, 1, -9998};
        int[] gaps = {19998, 0, 1, 0, 9999, 10000, 9998, 19997};
        for (int lane = 0; lane < 8; lane++) {
            x.come(lane, places[lane], 0);
        }
        for (int lane = 0; lane < 8; lane++) {
            due("gap of " + lane, x.runnerOf(lane, 3), gaps[lane]);
        }
        LeadRaces y = new LeadRaces();
        y.come(5, -77, 0);
        due("gap of the only one", y.runnerOf(5, 3), 0);
    }

    /** runnerOf, 4: "moments so far in which this runner led behind the moment, since the runner came" */
    private static void ledSinceTheRunnerCame() {
        LeadRaces x = new LeadRaces();
        x.pause(10);
        x.come(2, 0, 0);
        due("none yet", x.runnerOf(2, 4), 0);
        x.pause(1);
        due("one", x.runnerOf(2, 4), 1);
        x.pause(500);
        due("501", x.runnerOf(2, 4), 501);
        x.come(3, 1, 0);
        x.pause(9);
        due("not while another one leads", x.runnerOf(2, 4), 501);
        due("the other one", x.runnerOf(3, 4), 9);
        x.go(3);
        x.pause(1);
        due("again", x.runnerOf(2, 4), 502);
        x.come(3, 1, 0);
        due("comes again: none", x.runnerOf(3, 4), 0);
        x.pause(2);
        due("since it came again", x.runnerOf(3, 4), 2);
        x.go(2);
        x.come(2, 2, 0);
        due("comes again: none", x.runnerOf(2, 4), 0);
        x.speed(2, 5);
        x.jump(2, 5);
        due("no moment has gone by", x.runnerOf(2, 4), 0);
    }

    /** The one who leads behind the moment counts, not the one who led ahead of it. */
    private static void ledInTheMomentOfOvertaking() {
        for (int moments = 1; moments < 12; moments++) {
            LeadRaces x = new LeadRaces();
            x.come(1, 5, 0);
            x.come(0, 0, 1);
            x.come(6, -16, 3);
            // 0 is level in 5 and leads then; 6 is ahead of it in 9 (11 > 9)
            x.pause(moments);
            due("1 in " + moments, x.runnerOf(1, 4), Math.min(moments, 4));
            due("0 in " + moments, x.runnerOf(0, 4), Math.max(0, Math.min(moments, 8) - 4));
            due("6 in " + moments, x.runnerOf(6, 4), Math.max(0, moments - 8));
        }
    }

    private static void ledOfTextsAndUndo() {
        LeadRaces x = new LeadRaces();
        Expect.typeIn(x, "come 4 0 0;wait 7;come 5 1 0;wait 2;go 5;wait 1;");
        x.play();
        due("in a text", x.runnerOf(4, 4), 8);
        x.pause(3);
        due("behind it", x.runnerOf(4, 4), 11);
        x.undo();
        due("undone", x.runnerOf(4, 4), 8);
        x.pause(1);
        due("another moment", x.runnerOf(4, 4), 9);
        Expect.newText(x, "go 4;come 4 0 0;wait 2;");
        x.play();
        due("came again in a text", x.runnerOf(4, 4), 2);
    }

    /** raceOf: "race: 0 to 6", "what: 0 .. 4" */
    private static void raceOfRanges() {
        LeadRaces x = Setups.full();
        int[] races = {MIN, -2, -1, 7, 8, MAX};
        int[] whats = {MIN, -2, -1, 5, 6, MAX};
        for (int race : races) {
            due("raceOf(" + race + ", 0)", x.raceOf(race, 0), Expect.INVALID);
            due("raceOf(" + race + ", 4)", x.raceOf(race, 4), Expect.INVALID);
        }
        for (int what : whats) {
            due("raceOf(0, " + what + ")", x.raceOf(0, what), Expect.INVALID);
            due("raceOf(6, " + what + ")", x.raceOf(6, what), Expect.INVALID);
            due("without runners, too", new LeadRaces().raceOf(6, what), Expect.INVALID);
        }
        // The places are 5, -2, -9, -16, -23, -30, -37, -44; each lane is faster by 2 than the one ahead.
        int[][] answers = {{0, 1, 4, 2, 0}, {2, 3, 4, 2, 0}, {4, 5, 4, 2, 0}, {6, 7, 4, 2, 0}, {0, 2, 4, 4, 0},
            {4, 6, 4, 4, 0}, {0, 4, 4, 8, 0}};
        for (int race = 0; race < 7; race++) {
            for (int what = 0; what < 5; what++) {
                due("raceOf(" + race + ", " + what + ")", x.raceOf(race, what), answers[race][what]);
            }
        }
    }

    /** raceOf: "NOT_FOUND for 0 without a winner, for 1 without another one, for 2 .., for 4 .." */
    private static void raceOfNotFound() {
        LeadRaces x = new LeadRaces();
        x.come(2, 4, 0);
        raceOf(x, 0, Expect.NOT_FOUND, Expect.NOT_FOUND, Expect.NOT_FOUND, 0, Expect.NOT_FOUND);
        raceOf(x, 1, 2, Expect.NOT_FOUND, Expect.NOT_FOUND, 1, 0);
        x.pause(3);
        x.come(3, 4, 0);
        raceOf(x, 1, 2, 3, Expect.NOT_FOUND, 2, 3);
        x.speed(3, 1);
        raceOf(x, 1, 2, 3, 4, 3, 3);
        x.pause(1);
        raceOf(x, 1, 3, 2, Expect.NOT_FOUND, 4, 4);
        x.go(2);
        raceOf(x, 1, 3, Expect.NOT_FOUND, Expect.NOT_FOUND, 5, 4);
        x.pause(1);
        x.go(3);
        raceOf(x, 1, Expect.NOT_FOUND, Expect.NOT_FOUND, Expect.NOT_FOUND, 6, 5);
        raceOf(x, 6, Expect.NOT_FOUND, Expect.NOT_FOUND, Expect.NOT_FOUND, 6, 5);
        raceOf(x, 5, Expect.NOT_FOUND, Expect.NOT_FOUND, Expect.NOT_FOUND, 0, Expect.NOT_FOUND);
    }

    private static void raceOf(LeadRaces x, int race, int winner, int other, int end, int runs, int last) {
        int[] answers = {winner, other, end, runs, last};
        for (int what = 0; what < 5; what++) {
            due("raceOf(" + race + ", " + what + ") in " + x.count(1), x.raceOf(race, what), answers[what]);
        }
    }

    /** raceOf: "NOT_FOUND .. for 4 if it was never run": run in the moment 0 is another thing. */
    private static void raceNeverRun() {
        for (int lane = 0; lane < 8; lane++) {
            LeadRaces x = new LeadRaces();
            x.come(lane, 0, 0);
            for (int race = 0; race < 7; race++) {
                boolean run = race == lane / 2 || race == 4 + lane / 4 || race == 6;
                due("raceOf(" + race + ", 4)", x.raceOf(race, 4), run ? 0 : Expect.NOT_FOUND);
                due("raceOf(" + race + ", 3)", x.raceOf(race, 3), run ? 1 : 0);
            }
            x.undo();
            for (int race = 0; race < 7; race++) {
                due("undone: raceOf(" + race + ", 4)", x.raceOf(race, 4), Expect.NOT_FOUND);
            }
        }
    }

    private static void raceRunCounts() {
        LeadRaces x = new LeadRaces();
        x.come(0, 10, 0);
        x.come(1, 0, 1);
        for (int moment = 1; moment < 14; moment++) {
            x.pause(1);
            // The race 0 holds up to 11.
            due("runs in " + moment, x.raceOf(0, 3), moment < 11 ? 2 : 3);
            due("run in", x.raceOf(0, 4), moment < 11 ? 0 : 11);
            due("holds up to", x.raceOf(0, 2), moment < 11 ? 11 : Expect.NOT_FOUND);
        }
    }

    /** leader: "NOT_FOUND without runners" */
    private static void leaderOfNone() {
        for (int lane = 0; lane < 8; lane++) {
            LeadRaces x = new LeadRaces();
            due("none", x.leader(), Expect.NOT_FOUND);
            x.come(lane, -9999, -99);
            due("one", x.leader(), lane);
            x.pause(500);
            due("one, later", x.leader(), lane);
            x.go(lane);
            due("none again", x.leader(), Expect.NOT_FOUND);
            x.pause(1);
            due("none, later", x.leader(), Expect.NOT_FOUND);
        }
    }

    /** ledBy: "INVALID_ARGUMENT if index is negative or what is out of range" */
    private static void ledByRanges() {
        LeadRaces x = new LeadRaces();
        for (int times = 0; times < 10; times++) {
            due("ledBy(-1, 0)", x.ledBy(-1, 0), Expect.INVALID);
            due("ledBy(-8, 1)", x.ledBy(-8, 1), Expect.INVALID);
            due("ledBy(least, 0)", x.ledBy(MIN, 0), Expect.INVALID);
            due("ledBy(0, -1)", x.ledBy(0, -1), Expect.INVALID);
            due("ledBy(0, 2)", x.ledBy(0, 2), Expect.INVALID);
            due("ledBy(0, least)", x.ledBy(0, MIN), Expect.INVALID);
            due("ledBy(0, most)", x.ledBy(0, MAX), Expect.INVALID);
            due("ledBy(99, 2): out of range first", x.ledBy(99, 2), Expect.INVALID);
            due("ledBy(" + times + ", 0)", x.ledBy(times, 0), Expect.NOT_FOUND);
            due("ledBy(" + times + ", 1)", x.ledBy(times, 1), Expect.NOT_FOUND);
            due("ledBy(most, 0)", x.ledBy(MAX, 0), Expect.NOT_FOUND);
            if (times % 2 == 0) {
                x.come(times % 8, 0, 0);
            } else {
                x.go((times - 1) % 8);
            }
        }
    }

    /** ledBy: "0 for the latest one, and so on", "NOT_FOUND if there are not so many" */
    private static void ledByNoneOneAndTwo() {
        LeadRaces x = new LeadRaces();
        due("none", x.ledBy(0, 0), Expect.NOT_FOUND);
        x.pause(4);
        due("none leads still", x.ledBy(0, 0), Expect.NOT_FOUND);
        x.come(0, 0, 0);
        due("one", x.ledBy(0, 0), 0);
        due("its moment", x.ledBy(0, 1), 4);
        due("not two", x.ledBy(1, 0), Expect.NOT_FOUND);
        due("not two", x.ledBy(1, 1), Expect.NOT_FOUND);
        x.pause(1);
        x.come(7, 1, 0);
        due("two", x.ledBy(0, 0), 7);
        due("its moment", x.ledBy(0, 1), 5);
        due("the one before", x.ledBy(1, 0), 0);
        due("its moment", x.ledBy(1, 1), 4);
        due("not three", x.ledBy(2, 0), Expect.NOT_FOUND);
        x.undo();
        due("one again", x.ledBy(0, 0), 0);
        due("not two", x.ledBy(1, 0), Expect.NOT_FOUND);
    }

    /** ledBy: "each time when another runner leads than before (or one leads, and none did)" */
    private static void ledByPutsDownOthersAlone() {
        LeadRaces x = new LeadRaces();
        x.come(5, 0, 0);
        due("one leads, and none did", x.count(3), 1);
        x.come(6, 0, 0);
        x.come(7, -1, 0);
        due("the same one leads", x.count(3), 1);
        x.jump(5, 9);
        x.speed(5, 9);
        x.pause(9);
        x.jump(5, -90);
        x.speed(6, 1);
        due("the same one leads", x.count(3), 1);
        x.go(6);
        x.go(7);
        due("the same one leads", x.count(3), 1);
        x.come(4, 0, 9);
        due("level in a lower lane", x.count(3), 2);
        x.jump(4, -1);
        due("behind by 1", x.count(3), 3);
        x.jump(4, 1);
        due("level again", x.count(3), 4);
        due("the lane 4", x.ledBy(0, 0), 4);
        x.pause(500);
        due("as fast as the other one", x.count(3), 4);
        x.speed(5, 10);
        due("a speed is no lead", x.count(3), 4);
        x.pause(1);
        due("the moment is", x.count(3), 5);
        due("in", x.ledBy(0, 1), 510);
    }

    /** ledBy: "or none does any more, this is put down", "-1 if none led then" */
    private static void ledByNoneAnyMore() {
        LeadRaces x = new LeadRaces();
        x.come(3, 0, 0);
        x.come(2, -1, 0);
        x.go(3);
        due("one is left, who leads", x.count(3), 2);
        due("the lane 2", x.ledBy(0, 0), 2);
        x.pause(2);
        x.go(2);
        due("none any more", x.count(3), 3);
        due("no lane", x.ledBy(0, 0), -1);
        due("in", x.ledBy(0, 1), 2);
        x.pause(3);
        due("still none: not again", x.count(3), 3);
        x.come(2, 0, 0);
        due("the same lane once more", x.count(3), 4);
        due("the lane 2", x.ledBy(0, 0), 2);
        due("in", x.ledBy(0, 1), 5);
        due("no lane before", x.ledBy(1, 0), -1);
        due("the lane 2 before that", x.ledBy(2, 0), 2);
    }

    /** ledBy: "the latest 8 are kept", with one more, and once and twice round */
    private static void ledByKeepsEight() {
        LeadRaces x = new LeadRaces();
        for (int times = 1; times <= 26; times++) {
            if (times % 2 == 1) {
                x.come(times / 2 % 8, 0, 0);
            } else {
                x.go((times - 1) / 2 % 8);
            }
            due("put down " + times, x.count(3), times);
            due("the latest, lane", x.ledBy(0, 0), laneOf(times));
            due("the latest, moment", x.ledBy(0, 1), times - 1);
            due("the eighth, lane", x.ledBy(7, 0), times < 8 ? Expect.NOT_FOUND : laneOf(times - 7));
            due("the eighth, moment", x.ledBy(7, 1), times < 8 ? Expect.NOT_FOUND : times - 8);
            due("the seventh, moment", x.ledBy(6, 1), times < 7 ? Expect.NOT_FOUND : times - 7);
            due("the ninth", x.ledBy(8, 0), Expect.NOT_FOUND);
            due("the ninth", x.ledBy(8, 1), Expect.NOT_FOUND);
            x.pause(1);
        }
        for (int index = 0; index < 8; index++) {
            due("lane " + index, x.ledBy(index, 0), laneOf(26 - index));
            due("moment " + index, x.ledBy(index, 1), 25 - index);
        }
    }

    /** Lanes come and go in turn: the odd times put down a lane, the even ones none. */
    private static int laneOf(int times) {
        return times % 2 == 1 ? times / 2 % 8 : -1;
    }

    /** ledBy: "(behind each command of a text, too)" */
    private static void ledByOfTexts() {
        LeadRaces x = new LeadRaces();
        x.come(1, 5, 0);
        x.come(6, 0, 0);
        Expect.typeIn(x, "jump 1 -9;jump 1 9;go 1;go 6;come 6 0 0;");
        x.play();
        int[] lanes = {6, -1, 6, 1, 6, 1};
        due("put down", x.count(3), 6);
        for (int index = 0; index < 6; index++) {
            due("ledBy(" + index + ", 0)", x.ledBy(index, 0), lanes[index]);
            due("ledBy(" + index + ", 1)", x.ledBy(index, 1), 0);
        }
        due("no seventh", x.ledBy(6, 0), Expect.NOT_FOUND);
        x.undo();
        due("undone at once", x.count(3), 1);
        Expect.newText(x, "jump 1 -9;jump 1 9;jump 1 -9;jump 1 9;jump 1 -9;jump 1 9;");
        x.play();
        x.play();
        due("more than eight", x.count(3), 13);
        due("the eighth", x.ledBy(7, 0), 6);
        due("the ninth", x.ledBy(8, 0), Expect.NOT_FOUND);
    }

    /** count: "INVALID_ARGUMENT if what is out of range" */
    private static void countRange() {
        LeadRaces x = Setups.busy();
        int[] whats = {MIN, -2, -1, 7, 8, MAX};
        for (int what : whats) {
            due("count(" + what + ")", x.count(what), Expect.INVALID);
            due("of a new object", new LeadRaces().count(what), Expect.INVALID);
        }
        for (int what = 0; what < 7; what++) {
            due("count(" + what + ") is in the range", x.count(what) < 0 ? 1 : 0, 0);
        }
    }

    /** count, 0: "runners"; 1: "the time" */
    private static void countOfRunnersAndTime() {
        LeadRaces x = new LeadRaces();
        for (int lane = 0; lane < 8; lane++) {
            due("runners", x.count(0), lane);
            x.come(7 - lane, lane, 0);
            due("runners", x.count(0), lane + 1);
        }
        for (int lane = 0; lane < 8; lane++) {
            x.go(lane);
            due("runners", x.count(0), 7 - lane);
        }
        due("no time", x.count(1), 0);
        for (int i = 1; i <= 18; i++) {
            x.pause(500);
            due("time", x.count(1), 500 * i);
        }
        x.pause(1);
        due("time at its most", x.count(1), 9000);
        x.undo();
        due("time", x.count(1), 8500);
    }

    /** count, 2: "races run so far" */
    private static void countOfRacesRun() {
        LeadRaces x = new LeadRaces();
        due("none", x.count(2), 0);
        x.come(4, 3, 0);
        due("three", x.count(2), 3);
        x.come(7, 3, 0);
        due("six", x.count(2), 6);
        x.pause(100);
        due("moments of races that hold for ever", x.count(2), 6);
        x.speed(7, 1);
        due("nine", x.count(2), 9);
        x.pause(1);
        due("the races 5 and 6", x.count(2), 11);
        due("race 5", x.raceOf(5, 3), 4);
        due("race 6", x.raceOf(6, 3), 4);
        x.undo();
        due("undone", x.count(2), 9);
        x.undo();
        due("undone", x.count(2), 6);
    }

    /** count, 4: "states in the history"; 5: "the length of the text" */
    private static void countOfStatesAndText() {
        LeadRaces x = new LeadRaces();
        for (int i = 0; i < 7; i++) {
            due("states", x.count(4), Math.min(i, 4));
            x.play();
        }
        for (int i = 0; i < 62; i++) {
            due("length", x.count(5), Math.min(i, 60));
            x.type(32 + i);
        }
        due("states", x.count(4), 4);
        x.undo();
        due("length behind undo", x.count(5), 60);
        x.clearText();
        due("length", x.count(5), 0);
        due("states", x.count(4), 3);
    }

    /** count, 6: "races that hold for ever, as a set (bit k for the race k; those with two alone)" */
    private static void countOfForEver() {
        LeadRaces x = new LeadRaces();
        int[] sets = {0, 1, 17, 19, 83, 87, 119, 127};
        for (int lane = 0; lane < 8; lane++) {
            x.come(lane, -lane, 0);
            due("lanes up to " + lane, x.count(6), sets[lane]);
        }
        for (int lane = 7; lane > 0; lane--) {
            x.go(lane);
            due("lanes below " + lane, x.count(6), sets[lane - 1]);
        }
        x.go(0);
        due("none", x.count(6), 0);
        for (int race = 0; race < 4; race++) {
            LeadRaces y = new LeadRaces();
            for (int lane = 0; lane < 8; lane++) {
                y.come(lane, lane % 2 == 0 ? 9 : 0, 0);
            }
            due("all seven", y.count(6), 127);
            y.speed(2 * race + 1, 1);
            due("all but " + race, y.count(6), 127 - (1 << race));
            y.pause(9);
            due("all but " + race, y.count(6), 127 - (1 << race));
            y.speed(2 * race + 1, 0);
            due("all seven again", y.count(6), 127);
        }
    }
}
