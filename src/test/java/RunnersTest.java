/** Promises 1 to 6: a new object, come, go, speed, jump, pause. */
public final class RunnersTest {
    public static void main(String[] args) {
        newObject();
        come();
        comeRefused();
        go();
        speed();
        jump();
        jumpBeyond();
        pause();
        pauseRefused();
        racesRunAgain();
        overtakingTies();
        leadersMeet();
        Expect.finish();
    }

    private static void due(String call, int got, int want) {
        Expect.due(call, got, want);
    }

    private static void newObject() {
        LeadRaces x = new LeadRaces();
        for (int lane = 0; lane < 8; lane++) {
            due("new: runnerOf(" + lane + ", 0)", x.runnerOf(lane, 0), Expect.NOT_FOUND);
        }
        for (int race = 0; race < 7; race++) {
            due("new: raceOf 0", x.raceOf(race, 0), Expect.NOT_FOUND);
            due("new: raceOf 1", x.raceOf(race, 1), Expect.NOT_FOUND);
            due("new: raceOf 2", x.raceOf(race, 2), Expect.NOT_FOUND);
            due("new: raceOf 3", x.raceOf(race, 3), 0);
            due("new: raceOf 4", x.raceOf(race, 4), Expect.NOT_FOUND);
        }
        for (int what = 0; what < 7; what++) {
            due("new: count(" + what + ")", x.count(what), 0);
        }
        due("new: leader", x.leader(), Expect.NOT_FOUND);
        due("new: ledBy", x.ledBy(0, 0), Expect.NOT_FOUND);
        due("new: undo", x.undo(), Expect.NOT_POSSIBLE);
        LeadRaces other = new LeadRaces();
        other.come(0, 0, 0);
        due("new: one object leaves another alone", x.leader(), Expect.NOT_FOUND);
    }

    private static void come() {
        LeadRaces x = new LeadRaces();
        due("come leads", x.come(4, -9999, 99), 4);
        due("come behind", x.come(5, -9999, -99), 4);
        due("come in the lower lane, same place", x.come(0, -9999, 0), 0);
        due("come at the most place", x.come(7, 9999, -99), 7);
        due("runners", x.count(0), 4);
        due("place", x.runnerOf(5, 0), -9999);
        due("speed", x.runnerOf(5, 1), -99);
        due("speed of 4", x.runnerOf(4, 1), 99);
        due("place of 7", x.runnerOf(7, 0), 9999);
        due("states", x.count(4), 4);
    }

    private static void comeRefused() {
        LeadRaces x = new LeadRaces();
        int[][] wrong = {{-1, 0, 0}, {8, 0, 0}, {0, 10000, 0}, {0, -10000, 0}, {0, 0, 100}, {0, 0, -100},
            {Integer.MIN_VALUE, 0, 0}, {Integer.MAX_VALUE, 0, 0}, {0, Integer.MIN_VALUE, 0},
            {0, 0, Integer.MAX_VALUE}};
        x.come(0, 5, 5);
        for (int[] a : wrong) {
            due("come(" + a[0] + ", " + a[1] + ", " + a[2] + ")", x.come(a[0], a[1], a[2]), Expect.INVALID);
        }
        due("come where one is", x.come(0, 9, 9), Expect.NOT_POSSIBLE);
        due("come: its place stays", x.runnerOf(0, 0), 5);
        due("come: its speed stays", x.runnerOf(0, 1), 5);
        due("come: no state for errors", x.count(4), 1);
        due("come: no races for errors", x.count(2), 3);
    }

    private static void go() {
        LeadRaces x = new LeadRaces();
        due("go from an empty lane", x.go(3), Expect.NOT_POSSIBLE);
        due("go(-1)", x.go(-1), Expect.INVALID);
        due("go(8)", x.go(8), Expect.INVALID);
        x.come(0, 1, 0);
        x.come(3, 2, 0);
        x.come(6, 3, 0);
        due("go of the leader", x.go(6), 2);
        due("then leads", x.leader(), 3);
        due("go of another", x.go(0), 1);
        due("leads still", x.leader(), 3);
        due("go of the last one", x.go(3), 0);
        due("then none", x.leader(), Expect.NOT_FOUND);
        due("go twice", x.go(3), Expect.NOT_POSSIBLE);
        due("comes again", x.come(3, -4, 1), 3);
        due("at the new place", x.runnerOf(3, 0), -4);
        for (int lane = 7; lane >= 0; lane--) {
            x.come(lane, 0, 0);
        }
        for (int lane = 0; lane < 8; lane++) {
            due("go(" + lane + ")", x.go(lane), 7 - lane);
        }
    }

    private static void speed() {
        LeadRaces x = new LeadRaces();
        due("speed of none", x.speed(2, 1), Expect.NOT_POSSIBLE);
        x.come(2, 0, -7);
        due("speed was", x.speed(2, 99), -7);
        due("speed is", x.runnerOf(2, 1), 99);
        due("speed was 99", x.speed(2, -99), 99);
        due("speed(2, 100)", x.speed(2, 100), Expect.INVALID);
        due("speed(2, -100)", x.speed(2, -100), Expect.INVALID);
        due("speed(-1, 0)", x.speed(-1, 0), Expect.INVALID);
        due("speed(8, 0)", x.speed(8, 0), Expect.INVALID);
        due("out of range first", x.speed(3, 100), Expect.INVALID);
        due("speed stays", x.runnerOf(2, 1), -99);
        due("the same speed", x.speed(2, -99), -99);
        due("is a change, too", x.count(4), 4);
        due("with its races", x.count(2), 12);
        x.pause(2);
        due("it moves so", x.runnerOf(2, 0), -198);
    }

    private static void jump() {
        LeadRaces x = new LeadRaces();
        due("jump of none", x.jump(1, 1), Expect.NOT_POSSIBLE);
        due("out of range first", x.jump(1, 1000), Expect.INVALID);
        x.come(1, 0, 0);
        x.come(6, 10, 0);
        due("jump to the same place", x.jump(1, 10), 1);
        due("jump back", x.jump(1, -999), 6);
        due("jump(1, -1000)", x.jump(1, -1000), Expect.INVALID);
        due("jump(8, 0)", x.jump(8, 0), Expect.INVALID);
        due("jump(-1, 0)", x.jump(-1, 0), Expect.INVALID);
        due("place", x.runnerOf(1, 0), -989);
        due("jump ahead", x.jump(1, 999), 1);
        due("place", x.runnerOf(1, 0), 10);
        due("of no way", x.jump(6, 0), 1);
        due("by 1", x.jump(6, 1), 6);
        for (int lane = 0; lane < 8; lane++) {
            LeadRaces y = new LeadRaces();
            y.come(lane, 0, 0);
            y.come((lane + 3) % 8, 1, 0);
            due("jump(" + lane + ", 2)", y.jump(lane, 2), lane);
            due("speed(" + lane + ", 1)", y.speed(lane, 1), 0);
        }
    }

    private static LeadRaces farRunner(int sign) {
        LeadRaces x = new LeadRaces();
        x.come(0, sign * 9999, sign * 99);
        for (int i = 0; i < 18; i++) {
            x.pause(500);
        }
        for (int i = 0; i < 99; i++) {
            x.jump(0, sign * 999);
        }
        // 9999 + 891000 + 98901 = 999900
        return x;
    }

    private static void jumpBeyond() {
        for (int sign = -1; sign <= 1; sign += 2) {
            LeadRaces x = farRunner(sign);
            due("far: place", x.runnerOf(0, 0), sign * 999900);
            due("jump beyond", x.jump(0, sign * 101), Expect.LIMIT);
            due("place stays", x.runnerOf(0, 0), sign * 999900);
            due("jump to the limit", x.jump(0, sign * 100), 0);
            due("place", x.runnerOf(0, 0), sign * 1000000);
            due("jump beyond by 1", x.jump(0, sign), Expect.LIMIT);
            due("of no way", x.jump(0, 0), 0);
            due("out of range first", x.jump(0, sign * 1000), Expect.INVALID);
            due("the leader's bits", x.meanBits(), Float.floatToIntBits(sign * 1000000f));
            due("none there first", x.jump(1, 999), Expect.NOT_POSSIBLE);
        }
        moveBeyond();
    }

    /** Moments carry a runner beyond the limit of jumps, and a jump back in is possible, one within not. */
    private static void moveBeyond() {
        LeadRaces x = new LeadRaces();
        x.come(0, 9999, 99);
        for (int i = 0; i < 17; i++) {
            x.pause(500);
        }
        for (int i = 0; i < 148; i++) {
            x.jump(0, 999);
        }
        // 9999 + 841500 + 147852 = 999351
        due("near the limit", x.runnerOf(0, 0), 999351);
        due("moments go on", x.pause(10), 0);
        due("beyond the limit", x.runnerOf(0, 0), 1000341);
        due("no jump beyond", x.jump(0, -340), Expect.LIMIT);
        due("a jump back in", x.jump(0, -341), 0);
    }

    private static void pause() {
        LeadRaces x = new LeadRaces();
        due("pause without runners", x.pause(3), 0);
        due("time", x.count(1), 3);
        x.come(0, 10, 0);
        x.come(1, 0, 1);
        x.come(7, -25, 3);
        due("both overtake", x.pause(20), 2);
        due("places", x.runnerOf(7, 0), 35);
        due("places", x.runnerOf(1, 0), 20);
        due("places", x.runnerOf(0, 0), 10);
        due("leader", x.leader(), 7);
        due("put down", x.ledBy(0, 1), 3 + 13);
        due("put down", x.ledBy(1, 1), 3 + 11);
        due("500 moments", x.pause(500), 0);
        due("time", x.count(1), 523);
    }

    private static void pauseRefused() {
        LeadRaces x = new LeadRaces();
        due("pause(0)", x.pause(0), Expect.INVALID);
        due("pause(-1)", x.pause(-1), Expect.INVALID);
        due("pause(501)", x.pause(501), Expect.INVALID);
        due("pause of all", x.pause(Integer.MAX_VALUE), Expect.INVALID);
        due("nothing changed", x.count(4), 0);
        for (int i = 0; i < 17; i++) {
            due("pause(500)", x.pause(500), 0);
        }
        due("pause(499)", x.pause(499), 0);
        due("above 9000", x.pause(2), Expect.LIMIT);
        due("out of range first", x.pause(501), Expect.INVALID);
        due("to 9000", x.pause(1), 0);
        due("time", x.count(1), 9000);
        due("above 9000", x.pause(1), Expect.LIMIT);
        due("come at the end", x.come(0, 0, 1), 0);
    }

    private static void racesRunAgain() {
        LeadRaces x = new LeadRaces();
        int[][] races = {{0, 4}, {0, 4}, {1, 4}, {1, 4}, {2, 5}, {2, 5}, {3, 5}, {3, 5}};
        for (int lane = 0; lane < 8; lane++) {
            LeadRaces y = new LeadRaces();
            y.come(lane, 0, 0);
            for (int race = 0; race < 7; race++) {
                boolean run = race == 6 || race == races[lane][0] || race == races[lane][1];
                due("come(" + lane + "): raceOf(" + race + ", 3)", y.raceOf(race, 3), run ? 1 : 0);
                due("come(" + lane + "): raceOf(" + race + ", 4)", y.raceOf(race, 4),
                        run ? 0 : Expect.NOT_FOUND);
            }
        }
        x.come(0, 0, 0);
        x.come(1, 5, 0);
        x.speed(0, 1);
        x.jump(1, 1);
        x.go(1);
        due("three for each change", x.count(2), 15);
        due("race 0", x.raceOf(0, 3), 5);
        due("race 4", x.raceOf(4, 3), 5);
        due("race 6", x.raceOf(6, 3), 5);
        due("race 1", x.raceOf(1, 3), 0);
    }

    /** With the same place the lower lane is ahead: it overtakes a moment earlier. */
    private static void overtakingTies() {
        LeadRaces x = new LeadRaces();
        x.come(0, 0, 2);
        x.come(1, 6, 0);
        due("the lower lane overtakes when level", x.raceOf(0, 2), 3);
        x.come(2, 6, 0);
        x.come(3, 0, 2);
        due("the higher lane must be ahead", x.raceOf(1, 2), 4);
        x.pause(2);
        due("not yet", x.raceOf(0, 0), 1);
        x.pause(1);
        due("level", x.raceOf(0, 0), 0);
        due("run in", x.raceOf(0, 4), 3);
        due("race 1 not yet", x.raceOf(1, 0), 2);
        x.pause(1);
        due("race 1", x.raceOf(1, 0), 3);
        due("race 0 is not run again", x.raceOf(0, 4), 3);
        due("it holds for ever then", x.raceOf(0, 2), Expect.NOT_FOUND);
    }

    /** A race is run again when one who runs in it changes, even if its own end is not there. */
    private static void leadersMeet() {
        LeadRaces x = new LeadRaces();
        x.come(0, 3, 0);
        x.come(1, 0, 1);
        x.come(3, 100, 0);
        int runs = x.count(2);
        due("race 4 has no end", x.raceOf(4, 2), Expect.NOT_FOUND);
        due("no other leader", x.pause(4), 0);
        due("race 0 and 4 are run again", x.count(2), runs + 2);
        due("race 4", x.raceOf(4, 1), 1);
        due("now with an end", x.raceOf(4, 2), 4 + 96);
        due("race 6 is not run again, its winner stays", x.raceOf(6, 3), 3);
    }
}
