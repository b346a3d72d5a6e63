/** The boundaries that the document's "Terms" name, but those of texts. */
public final class TermsEdgesTest {
    private static final int MIDDLE_MOMENT = 3;

    public static void main(String[] args) {
        lanesZeroToSeven();
        noneAtFirst();
        everyMomentMovesBySpeed();
        aheadByPlaceOrLowerLane();
        leaderIsAheadOfAll();
        racesOfTwoOneAndNone();
        racesOfWinners();
        raceHoldsUpTo();
        raceHoldsForEver();
        endIsLaterThanTheRun();
        racesRunAtTheirEndAlone();
        runAgainForAnotherWinner();
        notRunAgainForTheSameWinner();
        runOnceWhereBothAreNew();
        threeRacesForEachChange();
        threeRacesAlsoForNothingNew();
        historyOfFour();
        eachChangeIsRecorded();
        whatIsNoChange();
        errorsInOrder();
        limitOfCalls();
        Expect.finish();
    }

    private static void due(String call, int got, int want) {
        Expect.due(call, got, want);
    }

    /** The race in which two lanes meet if both win until then. */
    private static int meeting(int lane, int other) {
        if (lane / 2 == other / 2) {
            return lane / 2;
        }
        return lane / 4 == other / 4 ? 4 + lane / 4 : 6;
    }

    /** "There are the lanes 0 to 7" */
    private static void lanesZeroToSeven() {
        LeadRaces x = new LeadRaces();
        due("the lane -1", x.come(-1, 0, 0), Expect.INVALID);
        due("the lane 8", x.come(8, 0, 0), Expect.INVALID);
        for (int lane = 7; lane >= 0; lane--) {
            due("the lane " + lane, x.come(lane, 0, 0), lane);
            due("runners", x.count(0), 8 - lane);
        }
        due("all have one: the lane 8", x.come(8, 0, 0), Expect.INVALID);
        for (int lane = 0; lane < 8; lane++) {
            due("all have one", x.come(lane, 0, 0), Expect.NOT_POSSIBLE);
        }
    }

    /** "each has a runner or not (none at first)", "Time is told in moments, 0 at first" */
    private static void noneAtFirst() {
        for (int lane = 0; lane < 8; lane++) {
            LeadRaces x = new LeadRaces();
            due("time", x.count(1), 0);
            due("none in " + lane, x.go(lane), Expect.NOT_POSSIBLE);
            due("comes to " + lane, x.come(lane, -9999, -99), lane);
            due("one in " + lane, x.count(0), 1);
            due("goes", x.go(lane), 0);
            due("none in " + lane, x.go(lane), Expect.NOT_POSSIBLE);
        }
    }

    /** "in each moment that goes by, the place becomes greater by the speed" */
    private static void everyMomentMovesBySpeed() {
        int[] speeds = {-99, -98, -1, 0, 1, 98, 99};
        for (int speed : speeds) {
            LeadRaces x = new LeadRaces();
            x.come(6, 7, speed);
            x.pause(1);
            due("speed " + speed + ", a moment", x.runnerOf(6, 0), 7 + speed);
            x.pause(2);
            due("speed " + speed + ", three", x.runnerOf(6, 0), 7 + 3 * speed);
            x.pause(500);
            due("speed " + speed + ", 503", x.runnerOf(6, 0), 7 + 503 * speed);
            due("time", x.count(1), 503);
        }
    }

    /** "ahead of another one if the place is greater, or the same and the lane is the lower one" */
    private static void aheadByPlaceOrLowerLane() {
        for (int low = 0; low < 8; low++) {
            for (int high = low + 1; high < 8; high++) {
                for (int more = -1; more <= 1; more++) {
                    ahead(low, high, more, true);
                    ahead(low, high, more, false);
                }
            }
        }
    }

    private static void ahead(int low, int high, int more, boolean lowComesFirst) {
        LeadRaces x = new LeadRaces();
        int front = more > 0 ? high : low;
        int behind = more > 0 ? low : high;
        String told = "lane " + low + " at 0, lane " + high + " at " + more + ": ";
        if (lowComesFirst) {
            x.come(low, 0, 5);
            due(told + "come", x.come(high, more, 5), front);
        } else {
            x.come(high, more, 5);
            due(told + "come", x.come(low, 0, 5), front);
        }
        due(told + "leader", x.leader(), front);
        due(told + "leadsAt", x.leadsAt(0), front);
        due(told + "leadsAt later", x.leadsAt(20000), front);
        due(told + "row", x.row(0, 0), front);
        due(told + "rank of the leader", x.runnerOf(front, 2), 0);
        due(told + "rank of the other", x.runnerOf(behind, 2), 1);
        due(told + "gap of the leader", x.runnerOf(front, 3), 0);
        due(told + "gap of the other", x.runnerOf(behind, 3), Math.abs(more));
        due(told + "winner", x.raceOf(meeting(low, high), 0), front);
        due(told + "other one", x.raceOf(meeting(low, high), 1), behind);
    }

    /** "The leader is the runner who is ahead of all others", "the winner of the race 6 is the leader" */
    private static void leaderIsAheadOfAll() {
        for (int lane = 0; lane < 8; lane++) {
            LeadRaces x = new LeadRaces();
            for (int other = 0; other < 8; other++) {
                x.come(other, other == lane ? 1 : 0, 0);
            }
            due("1 ahead of seven", x.leader(), lane);
            due("winner of the last race", x.raceOf(6, 0), lane);
            due("all eight level: the lane 0", x.jump(lane, -1), 0);
            due("winner of the last race", x.raceOf(6, 0), 0);
            due("rank of the lane " + lane, x.runnerOf(lane, 2), lane);
            due("1 behind all: the lowest of the others", x.jump(lane, -1), lane == 0 ? 1 : 0);
            due("rank of the last", x.runnerOf(lane, 2), 7);
            due("gap of the last", x.runnerOf(lane, 3), 1);
        }
    }

    /** "if there is just one, that one; if there is none, it has none" */
    private static void racesOfTwoOneAndNone() {
        for (int race = 0; race < 4; race++) {
            int low = 2 * race;
            LeadRaces x = new LeadRaces();
            none(x, race);
            x.come(low, 0, 0);
            one(x, race, low);
            x.come(low + 1, 1, 0);
            due("race " + race + " of two", x.raceOf(race, 0), low + 1);
            due("race " + race + ", the other one", x.raceOf(race, 1), low);
            x.go(low);
            one(x, race, low + 1);
            x.come(low, 1, 0);
            due("race " + race + " of two, level", x.raceOf(race, 0), low);
            x.go(low + 1);
            one(x, race, low);
            x.go(low);
            none(x, race);
        }
    }

    private static void none(LeadRaces x, int race) {
        due("race " + race + " of none: winner", x.raceOf(race, 0), Expect.NOT_FOUND);
        due("race " + race + " of none: other", x.raceOf(race, 1), Expect.NOT_FOUND);
        due("race " + race + " of none: holds", x.raceOf(race, 2), Expect.NOT_FOUND);
        due("race " + race + " of none: for ever", x.count(6) >> race & 1, 0);
    }

    private static void one(LeadRaces x, int race, int lane) {
        due("race " + race + " of one: winner", x.raceOf(race, 0), lane);
        due("race " + race + " of one: other", x.raceOf(race, 1), Expect.NOT_FOUND);
        due("race " + race + " of one: holds", x.raceOf(race, 2), Expect.NOT_FOUND);
        due("race " + race + " of one: for ever", x.count(6) >> race & 1, 0);
    }

    /** "the race 4 is between the winners of the races 0 and 1, .. 5 .. 2 and 3, .. 6 .. 4 and 5" */
    private static void racesOfWinners() {
        for (int lane = 0; lane < 8; lane++) {
            LeadRaces x = new LeadRaces();
            x.come(lane, 0, 0);
            for (int race = 0; race < 7; race++) {
                if (race == lane / 2 || race == 4 + lane / 4 || race == 6) {
                    one(x, race, lane);
                } else {
                    none(x, race);
                }
            }
            for (int other = 0; other < 8; other++) {
                if (other != lane) {
                    winnersMeet(lane, other);
                }
            }
        }
    }

    /** The lane is ahead of the other one; all races up to the one where they meet have one alone. */
    private static void winnersMeet(int lane, int other) {
        LeadRaces x = new LeadRaces();
        x.come(lane, 1, 0);
        x.come(other, 0, 0);
        int meeting = meeting(lane, other);
        int[] ofLane = {lane / 2, 4 + lane / 4, 6};
        int[] ofOther = {other / 2, 4 + other / 4, 6};
        for (int i = 0; i < 3; i++) {
            due("race " + ofLane[i] + " of the one ahead", x.raceOf(ofLane[i], 0), lane);
            due("race " + ofLane[i] + ", its other one", x.raceOf(ofLane[i], 1),
                    ofLane[i] == meeting ? other : Expect.NOT_FOUND);
            if (ofOther[i] != ofLane[i]) {
                due("race " + ofOther[i] + " of the one behind", x.raceOf(ofOther[i], 0), other);
                due("race " + ofOther[i] + ", its other one", x.raceOf(ofOther[i], 1), Expect.NOT_FOUND);
            }
        }
        due("just where they meet it holds for ever", x.count(6), 1 << meeting);
    }

    /** "the first moment .. in which the other one is ahead of its winner, if both go on as they do" */
    private static void raceHoldsUpTo() {
        // by how much it is behind, how much faster it is, moments in a lower lane, in a higher one
        int[][] cases = {{1, 1, 1, 2}, {2, 1, 2, 3}, {6, 2, 3, 4}, {7, 2, 4, 4}, {5, 2, 3, 3}, {6, 3, 2, 3},
            {7, 3, 3, 3}, {8, 3, 3, 3}, {9, 3, 3, 4}, {1, 99, 1, 1}, {98, 99, 1, 1}, {99, 99, 1, 2},
            {100, 99, 2, 2}, {197, 198, 1, 1}, {198, 198, 1, 2}, {199, 198, 2, 2}, {19998, 198, 101, 102},
            {19997, 198, 101, 101}, {19998, 1, 19998, 19999}, {396, 198, 2, 3}};
        for (int[] a : cases) {
            for (int lane = 0; lane < 8; lane++) {
                for (int other = 0; other < 8; other++) {
                    if (other != lane) {
                        holdsUpTo(lane, other, a[0], a[1], other < lane ? a[2] : a[3]);
                    }
                }
            }
        }
    }

    private static void holdsUpTo(int front, int behind, int gap, int gain, int moments) {
        LeadRaces x = new LeadRaces();
        String told = "lane " + behind + " is " + gap + " behind lane " + front + ", faster by " + gain + ": ";
        x.pause(MIDDLE_MOMENT);
        x.come(front, 9999, gain > 99 ? -99 : 0);
        x.come(behind, 9999 - gap, gain > 99 ? gain - 99 : gain);
        int race = meeting(front, behind);
        int end = MIDDLE_MOMENT + moments;
        due(told + "holds up to", x.raceOf(race, 2), end);
        due(told + "not for ever", x.count(6), 0);
        due(told + "next run", x.nextRun(), end);
        due(told + "settled", x.settledAt(), end);
        due(told + "row", x.row(1, 1), end);
        if (moments > 500) {
            return;
        }
        if (moments > 1) {
            due(told + "up to the moment before", x.pause(moments - 1), 0);
            due(told + "winner still", x.raceOf(race, 0), front);
            due(told + "run in", x.raceOf(race, 4), MIDDLE_MOMENT);
        }
        due(told + "the moment itself", x.pause(1), 1);
        due(told + "winner then", x.raceOf(race, 0), behind);
        due(told + "other one then", x.raceOf(race, 1), front);
        due(told + "run in", x.raceOf(race, 4), end);
        due(told + "for ever then", x.raceOf(race, 2), Expect.NOT_FOUND);
        due(told + "in the set", x.count(6), 1 << race);
    }

    /** "If there is no such moment, it holds for ever." */
    private static void raceHoldsForEver() {
        int[][] cases = {{0, 0}, {1, 0}, {0, -1}, {1, -1}, {9999, -99}};
        for (int[] a : cases) {
            for (int lane = 0; lane < 7; lane++) {
                for (int other = lane + 1; other < 8; other++) {
                    LeadRaces x = new LeadRaces();
                    x.come(lane, 0, 0);
                    x.come(other, -a[0], a[1]);
                    int race = meeting(lane, other);
                    String told = "lane " + other + " is " + a[0] + " behind lane " + lane + ": ";
                    due(told + "winner", x.raceOf(race, 0), lane);
                    due(told + "holds", x.raceOf(race, 2), Expect.NOT_FOUND);
                    due(told + "for ever", x.count(6), 1 << race);
                    due(told + "next run", x.nextRun(), Expect.NOT_FOUND);
                    due(told + "500 moments", x.pause(500), 0);
                    due(told + "not run again", x.raceOf(race, 3), 2);
                    x.speed(other, a[1] + 1);
                    due(told + "faster by 1", x.raceOf(race, 2) == Expect.NOT_FOUND ? 1 : 0, a[1] + 1 > 0 ? 0 : 1);
                }
            }
        }
    }

    /** "later than the one in which it was run": level at the run, the faster one is ahead in the next. */
    private static void endIsLaterThanTheRun() {
        LeadRaces x = new LeadRaces();
        x.come(4, 3, 0);
        x.come(5, 3, 1);
        due("level: the lower lane wins", x.raceOf(2, 0), 4);
        due("up to the next moment, not this one", x.raceOf(2, 2), 1);
        x.pause(1);
        due("then it is ahead", x.raceOf(2, 0), 5);
        x.jump(4, 1);
        due("level again", x.raceOf(2, 0), 4);
        due("up to the next one", x.raceOf(2, 2), 2);
    }

    /** "a race that holds up to this moment is run again", and no other one. */
    private static void racesRunAtTheirEndAlone() {
        LeadRaces x = new LeadRaces();
        for (int race = 0; race < 4; race++) {
            x.come(2 * race, 1000 - race, 0);
            x.come(2 * race + 1, 990 - 6 * race, 1);
        }
        // The odd lanes need 10, 15, 20 and 25 moments to be level, and one more to be ahead.
        int[] ends = {11, 16, 21, 26};
        for (int i = 0; i < 4; i++) {
            int[] runs = runs(x);
            for (int race = 0; race < 4; race++) {
                due("race " + race + " holds up to", x.raceOf(race, 2),
                        race < i ? Expect.NOT_FOUND : ends[race]);
            }
            x.pause(ends[i] - x.count(1) - 1);
            for (int race = 0; race < 4; race++) {
                due("up to " + (ends[i] - 1) + " race " + race, x.raceOf(race, 3), runs[race]);
            }
            x.pause(1);
            for (int race = 0; race < 4; race++) {
                due("in " + ends[i] + " race " + race, x.raceOf(race, 3), runs[race] + (race == i ? 1 : 0));
            }
            due("its winner", x.raceOf(i, 0), 2 * i + 1);
        }
    }

    /** "so is a race for which one of its two races was run again in this moment with another winner" */
    private static void runAgainForAnotherWinner() {
        for (int race = 0; race < 4; race++) {
            LeadRaces x = new LeadRaces();
            x.come(2 * race, 3, 0);
            x.come(2 * race + 1, 0, 1);
            int behind = 4 + race / 2;
            due("race " + behind + " was run", x.raceOf(behind, 3), 2);
            x.pause(3);
            due("not yet", x.count(2), 6);
            due("race " + race + " ends", x.pause(1), 1);
            due("three are run again", x.count(2), 9);
            due("race " + race, x.raceOf(race, 4), 4);
            due("race " + behind, x.raceOf(behind, 4), 4);
            due("race 6", x.raceOf(6, 4), 4);
            due("its winner", x.raceOf(6, 0), 2 * race + 1);
            due("race " + (9 - behind) + " is not", x.raceOf(9 - behind, 4), Expect.NOT_FOUND);
            x.pause(1);
            due("the next moment runs none", x.count(2), 9);
        }
        lastRaceForAnotherWinner();
    }

    /** The races 4 and 5 end themselves, and the race 6 has to be run again for each of them. */
    private static void lastRaceForAnotherWinner() {
        for (int side = 0; side < 2; side++) {
            LeadRaces x = new LeadRaces();
            x.come(4 * side, 3, 0);
            x.come(4 * side + 2, 0, 1);
            x.come(5 - 4 * side, 50, 1);
            int runs = x.raceOf(6, 3);
            due("race " + (4 + side) + " ends", x.raceOf(4 + side, 2), 4);
            x.pause(3);
            due("not yet", x.raceOf(6, 3), runs);
            due("race 6 has the same leader", x.pause(1), 0);
            due("but is run again", x.raceOf(6, 3), runs + 1);
            due("with another one behind", x.raceOf(6, 1), 4 * side + 2);
        }
    }

    /** A race which was run again "with another winner than before": not if it is the same. */
    private static void notRunAgainForTheSameWinner() {
        for (int race = 0; race < 4; race++) {
            LeadRaces x = new LeadRaces();
            int far = 2 * (race ^ 1);
            int behind = 4 + race / 2;
            x.come(2 * race, 3, 0);
            x.come(2 * race + 1, 0, 1);
            x.come(far, 100, 1);
            x.pause(3);
            due("races run", x.count(2), 9);
            due("no other leader", x.pause(1), 0);
            due("race " + race, x.raceOf(race, 4), 4);
            due("race " + behind, x.raceOf(behind, 4), 4);
            due("race " + behind + " has the same winner", x.raceOf(behind, 0), far);
            due("so race 6 is not run again", x.raceOf(6, 4), 0);
            due("two are", x.count(2), 11);
        }
    }

    /** Both races ahead end in one moment, with other winners; so does the race behind: each once. */
    private static void runOnceWhereBothAreNew() {
        for (int side = 0; side < 2; side++) {
            LeadRaces x = new LeadRaces();
            int first = 4 * side;
            x.come(first, 3, 0);
            x.come(first + 1, 0, 1);
            x.come(first + 2, 1, 0);
            x.come(first + 3, -2, 2);
            // first + 1 is ahead of first in 4 (4 > 3), first + 3 ahead of first + 2 in 2 (2 > 1)
            due("the first race", x.raceOf(2 * side, 2), 4);
            due("the second race", x.raceOf(2 * side + 1, 2), 2);
            x.jump(first + 2, 4);
            // first + 3 is ahead of first + 2 in 4 (6 > 5)
            due("the second race", x.raceOf(2 * side + 1, 2), 4);
            int runs = x.count(2);
            x.pause(3);
            due("none yet", x.count(2), runs);
            due("one other leader", x.pause(1), 1);
            due("four are run, each once", x.count(2), runs + 4);
            due("the leader", x.leader(), first + 3);
            due("the other one", x.raceOf(4 + side, 1), first + 1);
        }
        endAndNewWinnerAtOnce();
        newWinnersOnBothSides();
    }

    /** The race 4 would end in the moment in which the race 0 gets another winner. */
    private static void endAndNewWinnerAtOnce() {
        LeadRaces x = new LeadRaces();
        x.come(0, 3, 0);
        x.come(1, 0, 1);
        x.come(2, 0, 1);
        due("race 0 holds up to", x.raceOf(0, 2), 4);
        due("race 4 holds up to", x.raceOf(4, 2), 4);
        x.pause(4);
        due("race 0", x.raceOf(0, 3), 3);
        due("race 4 once", x.raceOf(4, 3), 4);
        due("race 6 once", x.raceOf(6, 3), 4);
        due("the winner of the race 4", x.raceOf(4, 0), 1);
        due("its other one", x.raceOf(4, 1), 2);
    }

    /** Races of both sides end in one moment: each of them has the race behind it run again. */
    private static void newWinnersOnBothSides() {
        for (int left = 0; left < 2; left++) {
            for (int right = 2; right < 4; right++) {
                LeadRaces x = new LeadRaces();
                x.come(2 * left, 3, 0);
                x.come(2 * left + 1, 0, 1);
                x.come(2 * right, 3, 0);
                x.come(2 * right + 1, 0, 1);
                due("races run", x.count(2), 12);
                x.pause(3);
                due("none yet", x.count(2), 12);
                due("one other leader", x.pause(1), 1);
                int[] winners = new int[7];
                winners[left] = 2 * left + 1;
                winners[right] = 2 * right + 1;
                winners[4] = 2 * left + 1;
                winners[5] = 2 * right + 1;
                winners[6] = 2 * left + 1;
                for (int race = 0; race < 7; race++) {
                    if (winners[race] > 0) {
                        due("race " + race + " is run", x.raceOf(race, 4), 4);
                        due("race " + race + ", winner", x.raceOf(race, 0), winners[race]);
                    }
                }
                due("five are run, each once", x.count(2), 17);
                due("race 6, the other one", x.raceOf(6, 1), 2 * right + 1);
            }
        }
        allFourAtOnce();
    }

    private static void allFourAtOnce() {
        LeadRaces x = new LeadRaces();
        for (int race = 0; race < 4; race++) {
            x.come(2 * race, 3 + race, 0);
            x.come(2 * race + 1, race, 1);
        }
        // The odd lanes are ahead in 4, and the higher ones of them farther.
        int runs = x.count(2);
        x.pause(3);
        due("none yet", x.count(2), runs);
        due("one other leader", x.pause(1), 1);
        due("all seven, each once", x.count(2), runs + 7);
        int[] winners = {1, 3, 5, 7, 3, 7, 7};
        int[] others = {0, 2, 4, 6, 1, 5, 3};
        for (int race = 0; race < 7; race++) {
            due("race " + race + " is run", x.raceOf(race, 4), 4);
            due("race " + race + ", winner", x.raceOf(race, 0), winners[race]);
            due("race " + race + ", other one", x.raceOf(race, 1), others[race]);
            due("race " + race + " holds for ever", x.raceOf(race, 2), Expect.NOT_FOUND);
        }
    }

    /** "the race of this lane, then the one behind it, and the last one are run again (all three..)" */
    private static void threeRacesForEachChange() {
        for (int lane = 0; lane < 8; lane++) {
            LeadRaces x = Setups.full();
            x.go((lane + 4) % 8);
            x.pause(1);
            int[] runs = runs(x);
            x.speed(lane, -5);
            runs = threeMore("speed", x, lane, runs);
            x.jump(lane, -4);
            runs = threeMore("jump", x, lane, runs);
            x.pause(1);
            runs = runs(x);
            x.go(lane);
            runs = threeMore("go", x, lane, runs);
            x.come(lane, -9999, 0);
            threeMore("come", x, lane, runs);
        }
    }

    private static int[] runs(LeadRaces x) {
        int[] runs = new int[7];
        for (int race = 0; race < 7; race++) {
            runs[race] = x.raceOf(race, 3);
        }
        return runs;
    }

    private static int[] threeMore(String told, LeadRaces x, int lane, int[] before) {
        int[] after = runs(x);
        int sum = 0;
        for (int race = 0; race < 7; race++) {
            boolean run = race == lane / 2 || race == 4 + lane / 4 || race == 6;
            due(told + " in lane " + lane + ", race " + race, after[race] - before[race], run ? 1 : 0);
            if (run) {
                due(told + " in lane " + lane + ", race " + race + " run in", x.raceOf(race, 4), x.count(1));
            }
            sum += after[race];
        }
        due(told + ": races run so far", x.count(2), sum);
        return after;
    }

    /** "(all three, always)": also if no winner and no number becomes another one. */
    private static void threeRacesAlsoForNothingNew() {
        for (int lane = 0; lane < 8; lane++) {
            LeadRaces x = Setups.full();
            x.pause(2);
            int[] runs = runs(x);
            x.speed(lane, 2 * lane);
            runs = threeMore("the same speed", x, lane, runs);
            x.jump(lane, 0);
            threeMore("no way", x, lane, runs);
        }
        LeadRaces y = new LeadRaces();
        y.come(6, 0, 0);
        y.go(6);
        due("the last one goes: all three", y.count(2), 6);
        due("race 3", y.raceOf(3, 3), 2);
        due("race 5", y.raceOf(5, 3), 2);
        due("race 6", y.raceOf(6, 3), 2);
    }

    /** "A history of at most 4 states", "if there are 5 states then, the oldest one is dropped" */
    private static void historyOfFour() {
        for (int changes = 0; changes <= 9; changes++) {
            LeadRaces x = new LeadRaces();
            for (int i = 1; i <= changes; i++) {
                x.pause(i);
                due("states behind " + i, x.count(4), Math.min(i, 4));
            }
            for (int left = Math.min(changes, 4); left > 0; left--) {
                due("undo of " + changes, x.undo(), left - 1);
                due("states left", x.count(4), left - 1);
                int undone = changes - (Math.min(changes, 4) - left + 1);
                due("time before", x.count(1), undone * (undone + 1) / 2);
            }
            due("no more", x.undo(), Expect.NOT_POSSIBLE);
        }
    }

    /** "The changes are the calls of come, go, speed, jump, pause and play that return no error." */
    private static void eachChangeIsRecorded() {
        Same.Call[] changes = {x -> x.come(3, 1, 1), x -> x.go(0), x -> x.speed(0, 7), x -> x.speed(0, 1),
            x -> x.jump(0, 5), x -> x.jump(0, 0), x -> x.pause(1), LeadRaces::play};
        for (int i = 0; i < changes.length; i++) {
            LeadRaces x = Setups.few();
            LeadRaces twin = Setups.few();
            due("change " + i, changes[i].on(x) > -1000 ? 1 : 0, 1);
            due("change " + i + " is recorded", x.count(4), 3);
            due("change " + i + " is undone", x.undo(), 2);
            Same.compare("undone " + i + ": ", Same.look(x), Same.look(twin));
        }
    }

    /** type, clearText, undo and all that looks are no changes. */
    private static void whatIsNoChange() {
        LeadRaces x = Setups.few();
        x.type(59);
        due("type", x.count(4), 2);
        x.clearText();
        due("clearText", x.count(4), 2);
        Same.look(x);
        due("all that looks", x.count(4), 2);
        x.undo();
        due("undo", x.count(4), 1);
        x.come(9, 0, 0);
        x.come(0, 0, 0);
        x.pause(0);
        due("errors", x.count(4), 1);
    }

    /** "INVALID_ARGUMENT .. rather than NOT_POSSIBLE, NOT_POSSIBLE rather than LIMIT_REACHED, .." */
    private static void errorsInOrder() {
        LeadRaces x = Setups.far(1000000);
        due("come: invalid, not possible", x.come(3, 10000, 0), Expect.INVALID);
        due("go: not possible", x.go(2), Expect.NOT_POSSIBLE);
        due("speed: invalid, not possible", x.speed(2, 100), Expect.INVALID);
        due("jump: invalid, not possible", x.jump(2, 1000), Expect.INVALID);
        due("jump: invalid, limit", x.jump(3, 1000), Expect.INVALID);
        due("jump: not possible", x.jump(2, 999), Expect.NOT_POSSIBLE);
        due("jump: limit", x.jump(3, 999), Expect.LIMIT);
        due("pause: invalid, limit", x.pause(501), Expect.INVALID);
        due("pause: limit", x.pause(500), Expect.LIMIT);
        due("runnerOf: invalid, not found", x.runnerOf(2, 5), Expect.INVALID);
        due("runnerOf: not found", x.runnerOf(2, 4), Expect.NOT_FOUND);
        due("raceOf: invalid, not found", x.raceOf(0, 5), Expect.INVALID);
        due("raceOf: not found", x.raceOf(0, 4), Expect.NOT_FOUND);
        due("ledBy: invalid, not found", x.ledBy(8, 2), Expect.INVALID);
        due("row: invalid, not found", x.row(8, 2), Expect.INVALID);
        x.go(3);
        due("jump: not possible, limit of the one who went", x.jump(3, 999), Expect.NOT_POSSIBLE);
        LeadRaces none = new LeadRaces();
        due("leadsAt: invalid, not found", none.leadsAt(20001), Expect.INVALID);
        due("fault: invalid, not found", none.fault(3), Expect.INVALID);
        Expect.typeIn(none, " ".repeat(60));
        due("type: invalid, limit", none.type(127), Expect.INVALID);
        due("type: limit", none.type(126), Expect.LIMIT);
    }

    /** "An object is used for at most 512 calls": the last of them answers as the first ones do. */
    private static void limitOfCalls() {
        LeadRaces x = new LeadRaces();
        for (int call = 1; call <= 511; call++) {
            if (call % 2 == 1) {
                due("call " + call, x.come(1, 3, 0), 1);
            } else {
                due("call " + call, x.go(1), 0);
            }
        }
        due("the 512th call", x.count(3), 511);
    }
}
