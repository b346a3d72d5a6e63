/** The boundaries of the promises 12 to 17; RefusedTest has that looking changes nothing. */
public final class OutlookEdgesTest {
    private static final int MIN = Integer.MIN_VALUE;
    private static final int MAX = Integer.MAX_VALUE;

    public static void main(String[] args) {
        leadsAtRange();
        leadsAtOfNone();
        leadsAtTheMomentOfOvertaking();
        leadsAtTheLatestMoment();
        leadsAtOfEightLanes();
        settledAtOfNoneAndOne();
        settledAtThePresent();
        settledAtTheMomentItself();
        settledAtBehindAllLimits();
        rowRanges();
        rowOfNoneAndOne();
        rowEndsWithTheLastLeader();
        rowOfEight();
        rowOfThePresentMoment();
        rowOfSeveralAtOnce();
        rowPassesOver();
        nextRunOfNone();
        nextRunSoonest();
        nextRunOfEachRace();
        nextRunComesTrue();
        meanBitsOfNone();
        meanBitsOfThoseLeft();
        meanBitsOfWholeNumbers();
        meanBitsOfParts();
        meanBitsAtTheirMost();
        undoOfNone();
        undoCountsDown();
        undoOfEachChange();
        undoDropsTheOldest();
        undoThenChange();
        undoLeavesTheText();
        Expect.finish();
    }

    private static void due(String call, int got, int want) {
        Expect.due(call, got, want);
    }

    /** leadsAt: "moment: the present time to 20000" */
    private static void leadsAtRange() {
        int[] times = {0, 1, 499, 500, 8999, 9000};
        for (int time : times) {
            LeadRaces x = Setups.at(time);
            int leader = time <= 5 ? 2 : 4;
            due("the present moment " + time, x.leadsAt(time), leader);
            due("the one before", x.leadsAt(time - 1), Expect.INVALID);
            due("two before", x.leadsAt(time - 2), Expect.INVALID);
            due("-1", x.leadsAt(-1), Expect.INVALID);
            due("the next one", x.leadsAt(time + 1), leader);
            due("19999", x.leadsAt(19999), 4);
            due("20000", x.leadsAt(20000), 4);
            due("20001", x.leadsAt(20001), Expect.INVALID);
            due("20002", x.leadsAt(20002), Expect.INVALID);
            due("least", x.leadsAt(MIN), Expect.INVALID);
            due("most", x.leadsAt(MAX), Expect.INVALID);
        }
        LeadRaces y = Setups.at(3);
        y.undo();
        due("the present moment behind undo", y.leadsAt(0), 2);
    }

    /** leadsAt: "NOT_FOUND without runners" */
    private static void leadsAtOfNone() {
        LeadRaces x = new LeadRaces();
        due("none", x.leadsAt(0), Expect.NOT_FOUND);
        due("none", x.leadsAt(20000), Expect.NOT_FOUND);
        due("out of range first", x.leadsAt(-1), Expect.INVALID);
        due("out of range first", x.leadsAt(20001), Expect.INVALID);
        x.come(7, 0, 0);
        due("one", x.leadsAt(20000), 7);
        x.pause(3);
        x.go(7);
        due("none again", x.leadsAt(3), Expect.NOT_FOUND);
        due("out of range first", x.leadsAt(2), Expect.INVALID);
    }

    /** "if nothing else happened, by all places alone" */
    private static void leadsAtTheMomentOfOvertaking() {
        LeadRaces x = new LeadRaces();
        x.come(3, 12, -1);
        x.come(1, 0, 2);
        x.come(6, -20, 7);
        // level in 4 (8 and 8): the lane 1; then 7k - 20 > 2k in 5 (15 > 10)
        int[] leaders = {3, 3, 3, 3, 1, 6, 6};
        for (int moment = 0; moment < leaders.length; moment++) {
            due("leadsAt(" + moment + ")", x.leadsAt(moment), leaders[moment]);
        }
        for (int moment = 1; moment < leaders.length; moment++) {
            x.pause(1);
            due("the leader in " + moment, x.leader(), leaders[moment]);
            due("leadsAt(" + moment + ") now", x.leadsAt(moment), leaders[moment]);
            due("the past", x.leadsAt(moment - 1), Expect.INVALID);
        }
    }

    private static void leadsAtTheLatestMoment() {
        LeadRaces x = new LeadRaces();
        x.come(0, 9999, 0);
        x.come(1, -9999, 1);
        due("level in 19998", x.leadsAt(19998), 0);
        due("ahead in 19999", x.leadsAt(19999), 1);
        LeadRaces y = new LeadRaces();
        y.come(4, 9999, 0);
        y.come(3, -9999, 1);
        due("behind in 19997", y.leadsAt(19997), 4);
        due("level in 19998, in a lower lane", y.leadsAt(19998), 3);
        LeadRaces z = new LeadRaces();
        z.come(2, 9999, -99);
        z.come(5, -9999, 99);
        due("as fast as can be, up to 100", z.leadsAt(100), 2);
        due("from 101 on level, and ahead in 102", z.leadsAt(101), 2);
        due("in 102", z.leadsAt(102), 5);
        due("in 20000", z.leadsAt(20000), 5);
    }

    private static void leadsAtOfEightLanes() {
        for (int lane = 0; lane < 8; lane++) {
            LeadRaces x = new LeadRaces();
            for (int other = 0; other < 8; other++) {
                x.come(other, 0, other == lane ? 1 : 0);
            }
            due("all level now", x.leadsAt(0), 0);
            due("in the next moment", x.leadsAt(1), lane);
            x.jump(lane, -1);
            due("1 behind", x.leadsAt(0), lane == 0 ? 1 : 0);
            due("level then", x.leadsAt(1), 0);
            due("ahead then", x.leadsAt(2), lane);
        }
    }

    /** settledAt: "NOT_FOUND without runners" */
    private static void settledAtOfNoneAndOne() {
        LeadRaces x = new LeadRaces();
        due("none", x.settledAt(), Expect.NOT_FOUND);
        x.pause(7);
        due("none, later", x.settledAt(), Expect.NOT_FOUND);
        for (int lane = 0; lane < 8; lane++) {
            x.come(lane, 3, -99);
            due("one alone", x.settledAt(), 7);
            x.go(lane);
            due("none again", x.settledAt(), Expect.NOT_FOUND);
        }
    }

    /** settledAt: "the present one at the earliest" */
    private static void settledAtThePresent() {
        int[] times = {0, 1, 500, 9000};
        for (int time : times) {
            LeadRaces x = new LeadRaces();
            x.come(3, 0, 0);
            for (int left = time; left > 0; left -= Math.min(left, 500)) {
                x.pause(Math.min(left, 500));
            }
            due("one alone", x.settledAt(), time);
            x.come(6, 0, 0);
            due("level for ever", x.settledAt(), time);
            x.come(1, -1, 0);
            due("behind for ever", x.settledAt(), time);
            x.speed(1, -1);
            due("farther and farther behind", x.settledAt(), time);
            x.speed(6, 1);
            due("level, and faster in a higher lane", x.settledAt(), time + 1);
            x.jump(6, 1);
            due("ahead, and faster", x.settledAt(), time);
        }
    }

    /** settledAt: "the first moment from which on one runner leads for ever" */
    private static void settledAtTheMomentItself() {
        LeadRaces x = new LeadRaces();
        x.come(3, 12, -1);
        x.come(1, 0, 2);
        x.come(6, -20, 7);
        for (int moment = 0; moment < 9; moment++) {
            due("in " + moment, x.settledAt(), Math.max(moment, 5));
            x.pause(1);
        }
        LeadRaces y = new LeadRaces();
        y.come(0, 10, 0);
        y.come(5, 0, 1);
        y.come(6, 0, 1);
        due("the faster ones: from 11 on the lower lane", y.settledAt(), 11);
        y.jump(6, 1);
        due("1 ahead of it: from 10 on", y.settledAt(), 10);
        y.come(7, 9, 1);
        due("from 2 on", y.settledAt(), 2);
        y.come(2, -9999, 1);
        due("the last of them changes nothing", y.settledAt(), 2);
        y.come(3, -97, 2);
        due("but a faster one does: 2k - 97 = k + 9", y.settledAt(), 106);
    }

    private static void settledAtBehindAllLimits() {
        LeadRaces x = new LeadRaces();
        x.come(0, 9999, 0);
        x.come(1, -9999, 1);
        due("in 19999", x.settledAt(), 19999);
        LeadRaces y = Setups.far(1000000);
        y.come(7, -9999, 1);
        due("from 8992 on it needs 1009999 + 1", y.settledAt(), 8992 + 1010000);
        due("row", y.row(1, 1), 8992 + 1010000);
        due("race 6", y.raceOf(6, 2), 8992 + 1010000);
        due("next run", y.nextRun(), 8992 + 1010000);
        y.come(2, -9999, 1);
        due("level in a lower lane", y.settledAt(), 8992 + 1009999);
        due("not in the moments that can be asked", y.leadsAt(20000), 3);
    }

    /** row: "INVALID_ARGUMENT if index is negative or what is out of range" */
    private static void rowRanges() {
        LeadRaces[] all = {new LeadRaces(), Setups.few(), Setups.full(), Setups.at(9000)};
        for (LeadRaces x : all) {
            due("row(-1, 0)", x.row(-1, 0), Expect.INVALID);
            due("row(-8, 1)", x.row(-8, 1), Expect.INVALID);
            due("row(least, 0)", x.row(MIN, 0), Expect.INVALID);
            due("row(0, -1)", x.row(0, -1), Expect.INVALID);
            due("row(0, 2)", x.row(0, 2), Expect.INVALID);
            due("row(0, least)", x.row(0, MIN), Expect.INVALID);
            due("row(0, most)", x.row(0, MAX), Expect.INVALID);
            due("row(9, 2): out of range first", x.row(9, 2), Expect.INVALID);
            due("row(9, -1): out of range first", x.row(9, -1), Expect.INVALID);
            due("row(8, 0)", x.row(8, 0), Expect.NOT_FOUND);
            due("row(8, 1)", x.row(8, 1), Expect.NOT_FOUND);
            due("row(most, 0)", x.row(MAX, 0), Expect.NOT_FOUND);
            due("row(most, 1)", x.row(MAX, 1), Expect.NOT_FOUND);
        }
    }

    /** row: "NOT_FOUND if there are not so many, or without runners" */
    private static void rowOfNoneAndOne() {
        LeadRaces x = new LeadRaces();
        x.pause(6);
        due("none, lane", x.row(0, 0), Expect.NOT_FOUND);
        due("none, moment", x.row(0, 1), Expect.NOT_FOUND);
        for (int lane = 0; lane < 8; lane++) {
            x.come(lane, 0, 5);
            due("one, lane", x.row(0, 0), lane);
            due("one, moment", x.row(0, 1), 6);
            due("not two", x.row(1, 0), Expect.NOT_FOUND);
            due("not two", x.row(1, 1), Expect.NOT_FOUND);
            x.go(lane);
            due("none again", x.row(0, 0), Expect.NOT_FOUND);
        }
    }

    private static void rowOf(LeadRaces x, int[]... leaders) {
        for (int index = 0; index < leaders.length; index++) {
            due("row(" + index + ", 0)", x.row(index, 0), leaders[index][0]);
            due("row(" + index + ", 1)", x.row(index, 1), leaders[index][1]);
        }
        due("no more lanes", x.row(leaders.length, 0), Expect.NOT_FOUND);
        due("no more moments", x.row(leaders.length, 1), Expect.NOT_FOUND);
        due("settled with the last one", x.settledAt(), leaders[leaders.length - 1][1]);
    }

    private static void rowEndsWithTheLastLeader() {
        LeadRaces x = new LeadRaces();
        x.come(3, 12, -1);
        x.come(1, 0, 2);
        x.come(6, -20, 7);
        rowOf(x, new int[] {3, 0}, new int[] {1, 4}, new int[] {6, 5});
        x.come(7, -9999, 7);
        x.come(0, 11, -99);
        rowOf(x, new int[] {3, 0}, new int[] {1, 4}, new int[] {6, 5});
        x.speed(1, 7);
        // 12 - k = 7k in no moment, 12 - k < 7k in 2
        rowOf(x, new int[] {3, 0}, new int[] {1, 2});
        x.jump(3, -1);
        // level with the lane 0, which is the lower one, and which falls behind at once
        rowOf(x, new int[] {0, 0}, new int[] {3, 1}, new int[] {1, 2});
    }

    /** All eight lanes lead in turn, the lowest first and the highest first. */
    private static void rowOfEight() {
        LeadRaces up = new LeadRaces();
        LeadRaces down = new LeadRaces();
        for (int i = 0; i < 8; i++) {
            // level with the one before in the moment i - 1
            up.come(i, -i * (i - 1) / 2, i);
            down.come(7 - i, -i * (i - 1) / 2 - i, i);
        }
        int[][] ofUp = new int[8][];
        int[][] ofDown = new int[8][];
        for (int i = 0; i < 8; i++) {
            ofUp[i] = new int[] {i, i};
            ofDown[i] = new int[] {7 - i, i};
        }
        rowOf(up, ofUp);
        rowOf(down, ofDown);
        due("as the moments do", down.pause(7), 7);
        rowOf(down, new int[] {0, 7});
    }

    /** row: "of the present one the present moment", even if it has led for long */
    private static void rowOfThePresentMoment() {
        LeadRaces x = new LeadRaces();
        x.come(3, 12, -1);
        x.come(1, 0, 2);
        x.come(6, -20, 7);
        for (int moment = 0; moment < 4; moment++) {
            rowOf(x, new int[] {3, moment}, new int[] {1, 4}, new int[] {6, 5});
            x.pause(1);
        }
        rowOf(x, new int[] {1, 4}, new int[] {6, 5});
        x.pause(1);
        rowOf(x, new int[] {6, 5});
        x.pause(500);
        rowOf(x, new int[] {6, 505});
    }

    /** Several overtake the leader in one moment: the one ahead of them stands in the row. */
    private static void rowOfSeveralAtOnce() {
        LeadRaces x = new LeadRaces();
        x.come(0, 0, 0);
        x.come(5, -4, 2);
        x.come(6, -4, 2);
        rowOf(x, new int[] {0, 0}, new int[] {5, 3});
        x.jump(6, 1);
        // 2 > 0 for 5 in 3, 1 > 0 for 6 in 2
        rowOf(x, new int[] {0, 0}, new int[] {6, 2});
        x.come(7, -3, 2);
        x.come(1, -3, 2);
        rowOf(x, new int[] {0, 0}, new int[] {1, 2});
        x.come(4, -6, 4);
        // in 2 it is at 2, and the lane 1 at 1
        rowOf(x, new int[] {0, 0}, new int[] {4, 2});
    }

    /** Who is overtaken before it would lead does not stand in the row. */
    private static void rowPassesOver() {
        LeadRaces x = new LeadRaces();
        x.come(2, 100, 0);
        x.come(3, 0, 10);
        x.come(4, -10, 12);
        // 3 in 11, 4 in 10 (110 > 100)
        rowOf(x, new int[] {2, 0}, new int[] {4, 10});
        x.jump(4, -12);
        // 4 in 11 as well, at 110, level with 3; then it is ahead in 12
        rowOf(x, new int[] {2, 0}, new int[] {3, 11}, new int[] {4, 12});
        x.jump(4, 1);
        rowOf(x, new int[] {2, 0}, new int[] {4, 11});
    }

    /** nextRun: "NOT_FOUND if there is none" */
    private static void nextRunOfNone() {
        LeadRaces x = new LeadRaces();
        due("without runners", x.nextRun(), Expect.NOT_FOUND);
        x.come(2, 5, 1);
        due("one alone", x.nextRun(), Expect.NOT_FOUND);
        x.come(6, 5, 1);
        due("two that hold for ever", x.nextRun(), Expect.NOT_FOUND);
        x.come(7, 4, 1);
        due("three", x.nextRun(), Expect.NOT_FOUND);
        x.speed(2, 2);
        due("the leader is faster", x.nextRun(), Expect.NOT_FOUND);
        x.speed(7, 2);
        due("the last is faster than one", x.nextRun(), 2);
        x.pause(1);
        due("not yet", x.nextRun(), 2);
        x.pause(1);
        due("then none", x.nextRun(), Expect.NOT_FOUND);
        x.go(7);
        x.go(6);
        x.go(2);
        due("none at all", x.nextRun(), Expect.NOT_FOUND);
    }

    /** The next moment is the soonest one: it is never the present one. */
    private static void nextRunSoonest() {
        LeadRaces x = new LeadRaces();
        x.pause(6);
        x.come(0, 5, 0);
        x.come(1, 5, 1);
        due("level now, ahead in the next moment", x.nextRun(), 7);
        x.pause(1);
        due("it was run", x.raceOf(0, 4), 7);
        due("none", x.nextRun(), Expect.NOT_FOUND);
        x.speed(0, 99);
        due("in the next moment again", x.nextRun(), 8);
        LeadRaces y = Setups.at(9000);
        y.come(0, 9999, 0);
        y.come(1, 9999, 1);
        due("behind the last moment", y.nextRun(), 9001);
    }

    /** "the next moment in which any race would be run again": each of the seven. */
    private static void nextRunOfEachRace() {
        int[][] pairs = {{0, 1}, {2, 3}, {4, 5}, {6, 7}, {1, 3}, {5, 7}, {3, 5}};
        for (int race = 0; race < 7; race++) {
            LeadRaces x = new LeadRaces();
            x.come(pairs[race][0], 10, 0);
            x.come(pairs[race][1], 0, 2);
            due("race " + race + " holds up to", x.raceOf(race, 2), 6);
            due("race " + race + ": the next run", x.nextRun(), 6);
            x.pause(5);
            due("race " + race + ": the next run", x.nextRun(), 6);
            x.pause(1);
            due("race " + race + " is run", x.raceOf(race, 4), 6);
            due("race " + race + ": no next run", x.nextRun(), Expect.NOT_FOUND);
        }
        LeadRaces y = new LeadRaces();
        for (int race = 0; race < 4; race++) {
            y.come(2 * race, 0, 0);
            y.come(2 * race + 1, -50 + 10 * race, 1);
            due("the soonest of " + (race + 1), y.nextRun(), 51 - 10 * race);
        }
        due("a race that ends later", y.raceOf(0, 2), 51);
    }

    /** Up to the moment before no race is run again; in it at least one is. */
    private static void nextRunComesTrue() {
        LeadRaces x = Setups.full();
        x.jump(2, 40);
        x.jump(6, -30);
        for (int i = 0; i < 30; i++) {
            int next = x.nextRun();
            if (next == Expect.NOT_FOUND) {
                due("then all hold for ever", x.pause(500), 0);
                due("runs of the seven", x.count(6), 127);
                return;
            }
            int runs = x.count(2);
            if (next - x.count(1) > 1) {
                x.pause(next - x.count(1) - 1);
                due("up to " + (next - 1), x.count(2), runs);
            }
            x.pause(1);
            due("in " + next, x.count(2) > runs ? 1 : 0, 1);
        }
        due("it ends", x.nextRun(), Expect.NOT_FOUND);
    }

    /** meanBits: "NOT_FOUND without runners" */
    private static void meanBitsOfNone() {
        LeadRaces x = new LeadRaces();
        due("none", x.meanBits(), Expect.NOT_FOUND);
        x.come(0, 0, 0);
        due("one at 0", x.meanBits(), 0);
        x.go(0);
        due("none again", x.meanBits(), Expect.NOT_FOUND);
    }

    /** "the mean place of all runners": who went is none of them, wherever it was. */
    private static void meanBitsOfThoseLeft() {
        LeadRaces x = new LeadRaces();
        int[] places = {100, -7, 9999, 3, -9999, 40, 8, 1};
        for (int lane = 0; lane < 8; lane++) {
            x.come(lane, places[lane], 0);
        }
        int sum = 145;
        due("all eight", x.meanBits(), Float.floatToIntBits(145f / 8f));
        for (int lane = 0; lane < 7; lane++) {
            x.go(lane);
            sum -= places[lane];
            due("those above " + lane, x.meanBits(), Float.floatToIntBits((float) sum / (float) (7 - lane)));
        }
        due("the last one at 1", x.meanBits(), 0x3f800000);
        x.come(0, 2, 0);
        due("one comes again", x.meanBits(), 0x3fc00000);
    }

    private static void mean(int bits, int... places) {
        LeadRaces x = new LeadRaces();
        for (int lane = 0; lane < places.length; lane++) {
            x.come(7 - lane, places[lane], 0);
        }
        due("mean of " + java.util.Arrays.toString(places), x.meanBits(), bits);
    }

    private static void meanBitsOfWholeNumbers() {
        mean(0x00000000, 0);
        mean(0x3f800000, 1);
        mean(0xbf800000, -1);
        mean(0x40000000, 2);
        mean(0x40400000, 3);
        mean(0xc0400000, -3);
        mean(0x461c3c00, 9999);
        mean(0xc61c3c00, -9999);
        mean(0x00000000, 9999, -9999);
        mean(0x00000000, 1, -1);
        mean(0x3f800000, 9999, -9997);
        mean(0x40a00000, 4, 5, 6);
        mean(0x461c3c00, 9999, 9999, 9999, 9999, 9999, 9999, 9999, 9999);
        mean(0xc61c3c00, -9999, -9999, -9999, -9999, -9999, -9999, -9999, -9999);
    }

    /** A half, a third and an eighth of 1 and of others, of both signs. */
    private static void meanBitsOfParts() {
        mean(0x3f000000, 1, 0);
        mean(0xbf000000, -1, 0);
        mean(0x3fc00000, 1, 2);
        mean(0x3eaaaaab, 1, 0, 0);
        mean(0xbeaaaaab, -1, 0, 0);
        mean(0x3f2aaaab, 2, 0, 0);
        mean(0x3e800000, 1, 0, 0, 0);
        mean(0x3e4ccccd, 1, 0, 0, 0, 0);
        mean(0x3e2aaaab, 1, 0, 0, 0, 0, 0);
        mean(0x3e124925, 1, 0, 0, 0, 0, 0, 0);
        mean(0x3e000000, 1, 0, 0, 0, 0, 0, 0, 0);
        mean(0xbe000000, -1, 0, 0, 0, 0, 0, 0, 0);
        mean(0x3f800000, 0, 0, 0, 0, 0, 0, 7);
        mean(0x3f600000, 0, 0, 0, 0, 0, 0, 0, 7);
        for (int sum = -2000; sum <= 2000; sum += 37) {
            for (int runners = 1; runners <= 8; runners++) {
                int[] places = new int[runners];
                places[runners - 1] = sum;
                mean(Float.floatToIntBits((float) sum / (float) runners), places);
            }
        }
    }

    private static void meanBitsAtTheirMost() {
        for (int sign = -1; sign <= 1; sign += 2) {
            LeadRaces x = Setups.far(sign * 1000000);
            due("1000000", x.meanBits(), Float.floatToIntBits(sign * 1000000f));
            x.come(0, sign * 9999, 0);
            due("two", x.meanBits(), Float.floatToIntBits(sign * 1009999f / 2f));
            x.come(1, -sign * 9999, 0);
            due("three", x.meanBits(), Float.floatToIntBits(sign * 1000000f / 3f));
            for (int lane = 4; lane < 8; lane++) {
                x.come(lane, sign * 9999, 0);
            }
            due("seven", x.meanBits(), Float.floatToIntBits(sign * 1039996f / 7f));
        }
        LeadRaces y = new LeadRaces();
        for (int lane = 0; lane < 8; lane++) {
            y.come(lane, 9999 - lane, 99);
        }
        for (int i = 0; i < 18; i++) {
            y.pause(500);
        }
        // 8 * 9999 - 28 + 8 * 99 * 9000 = 7207964, a number above 2 to the 22nd
        due("eight, far away", y.meanBits(), Float.floatToIntBits(7207964f / 8f));
    }

    /** undo: "NOT_POSSIBLE if it is empty" */
    private static void undoOfNone() {
        LeadRaces x = new LeadRaces();
        due("new", x.undo(), Expect.NOT_POSSIBLE);
        due("again", x.undo(), Expect.NOT_POSSIBLE);
        x.come(0, 0, 0);
        due("one", x.undo(), 0);
        due("none again", x.undo(), Expect.NOT_POSSIBLE);
        due("it is as new", x.count(0), 0);
        due("states", x.count(4), 0);
    }

    /** undo: "Returns the number of states that are left in the history" */
    private static void undoCountsDown() {
        for (int changes = 1; changes <= 6; changes++) {
            LeadRaces x = new LeadRaces();
            for (int i = 0; i < changes; i++) {
                x.come(i, i, i);
            }
            int kept = Math.min(changes, 4);
            for (int left = kept - 1; left >= 0; left--) {
                due(changes + " changes, undo", x.undo(), left);
                due(changes + " changes, states", x.count(4), left);
                due(changes + " changes, runners", x.count(0), changes - kept + left);
            }
            due(changes + " changes, one more undo", x.undo(), Expect.NOT_POSSIBLE);
            due(changes + " changes, runners", x.count(0), changes - kept);
        }
    }

    /** "each change records everything before it but the text" */
    private static void undoOfEachChange() {
        Same.Call[] changes = {x -> x.come(7, 999, 9), x -> x.go(6), x -> x.speed(1, -9), x -> x.jump(0, 90),
            x -> x.pause(40), x -> x.pause(500), LeadRaces::play};
        for (int i = 0; i < changes.length; i++) {
            LeadRaces x = Setups.busy();
            int[] before = Same.lookAtTrack(x);
            due("change " + i, changes[i].on(x) > -1000 ? 1 : 0, 1);
            due("undo", x.undo(), 3);
            Same.compare("undone " + i + ": ", Same.lookAtTrack(x), before);
        }
    }

    /** "if there are 5 states then, the oldest one is dropped" */
    private static void undoDropsTheOldest() {
        Same.Call[] changes = {x -> x.come(2, 5, 0), x -> x.come(5, 0, 3), x -> x.pause(4), x -> x.jump(2, 30),
            x -> x.speed(2, -3), x -> x.go(5), x -> x.come(5, 1, 1)};
        for (int done = 1; done <= changes.length; done++) {
            for (int undone = 1; undone <= Math.min(done, 4); undone++) {
                LeadRaces x = new LeadRaces();
                LeadRaces twin = new LeadRaces();
                for (int i = 0; i < done; i++) {
                    changes[i].on(x);
                }
                for (int i = 0; i < done - undone; i++) {
                    changes[i].on(twin);
                }
                for (int i = 0; i < undone; i++) {
                    x.undo();
                }
                Same.compare(done + " done, " + undone + " undone: ", Same.lookAtTrack(x), Same.lookAtTrack(twin));
                due("states left", x.count(4), Math.min(done, 4) - undone);
            }
        }
    }

    /** What comes behind an undo is recorded upon what was left. */
    private static void undoThenChange() {
        LeadRaces x = new LeadRaces();
        for (int i = 1; i <= 5; i++) {
            x.pause(i);
        }
        x.undo();
        x.undo();
        due("two are left", x.count(4), 2);
        x.pause(100);
        x.pause(200);
        due("four", x.count(4), 4);
        x.pause(300);
        due("four still", x.count(4), 4);
        int[] times = {306, 106, 6, 3};
        for (int i = 0; i < 4; i++) {
            due("undo", x.undo(), 3 - i);
            due("time", x.count(1), times[i]);
        }
        due("no more", x.undo(), Expect.NOT_POSSIBLE);
    }

    /** "everything .. but the text" */
    private static void undoLeavesTheText() {
        LeadRaces x = new LeadRaces();
        Expect.typeIn(x, "wait 7;");
        x.pause(1);
        Expect.typeIn(x, "wait 8;");
        x.play();
        due("time", x.count(1), 16);
        x.clearText();
        Expect.typeIn(x, "wait 50;");
        due("undo", x.undo(), 1);
        due("the text of now", x.count(5), 8);
        due("undo", x.undo(), 0);
        due("the text of now", x.count(5), 8);
        due("it is played", x.play(), 1);
        due("time", x.count(1), 50);
    }
}
