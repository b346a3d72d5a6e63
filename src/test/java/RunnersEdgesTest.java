/** The boundaries of the promises 1 to 6; RefusedTest has that what is refused changes nothing. */
public final class RunnersEdgesTest {
    private static final int MIN = Integer.MIN_VALUE;
    private static final int MAX = Integer.MAX_VALUE;

    public static void main(String[] args) {
        newObject();
        newObjectsApart();
        comeLanes();
        comePlaces();
        comeSpeeds();
        comeReturnsTheLeader();
        comeToAFullLane();
        goLanes();
        goReturnsHowManyAreLeft();
        goFromAnEmptyLane();
        speedLanes();
        speedRange();
        speedReturnsWhatItWas();
        speedOfNone();
        jumpLanes();
        jumpWays();
        jumpReturnsTheLeader();
        jumpOfNone();
        jumpToTheLimit();
        jumpFromBeyond();
        pauseMoments();
        pauseReturnsOtherLeaders();
        pauseThroughManyLeaders();
        pauseUpToTheLimit();
        callsAtTheLimit();
        Expect.finish();
    }

    private static void due(String call, int got, int want) {
        Expect.due(call, got, want);
    }

    /** An argument just inside a range is accepted, just outside it is not. */
    private static void range(String told, int least, int most, Same.Setup setup, IntCall call) {
        int[] inside = {least, least + 1, most - 1, most};
        for (int value : inside) {
            due(told + " " + value + " is in the range", call.on(setup.make(), value) == Expect.INVALID ? 1 : 0, 0);
        }
        int[] outside = {MIN, least - 2, least - 1, most + 1, most + 2, MAX};
        for (int value : outside) {
            due(told + " " + value, call.on(setup.make(), value), Expect.INVALID);
        }
    }

    private interface IntCall {
        int on(LeadRaces races, int value);
    }

    /** "Creates lanes without runners, at the moment 0." */
    private static void newObject() {
        LeadRaces x = new LeadRaces();
        int[] counts = {0, 0, 0, 0, 0, 0, 0};
        for (int what = 0; what < 7; what++) {
            due("count(" + what + ")", x.count(what), counts[what]);
        }
        for (int lane = 0; lane < 8; lane++) {
            for (int what = 0; what < 5; what++) {
                due("runnerOf(" + lane + ", " + what + ")", x.runnerOf(lane, what), Expect.NOT_FOUND);
            }
        }
        for (int race = 0; race < 7; race++) {
            for (int what = 0; what < 5; what++) {
                due("raceOf(" + race + ", " + what + ")", x.raceOf(race, what), what == 3 ? 0 : Expect.NOT_FOUND);
            }
        }
        for (int what = 0; what < 2; what++) {
            due("ledBy", x.ledBy(0, what), Expect.NOT_FOUND);
            due("row", x.row(0, what), Expect.NOT_FOUND);
        }
        for (int what = 0; what < 3; what++) {
            due("fault", x.fault(what), Expect.NOT_FOUND);
        }
        due("leader", x.leader(), Expect.NOT_FOUND);
        due("leadsAt", x.leadsAt(0), Expect.NOT_FOUND);
        due("settledAt", x.settledAt(), Expect.NOT_FOUND);
        due("nextRun", x.nextRun(), Expect.NOT_FOUND);
        due("meanBits", x.meanBits(), Expect.NOT_FOUND);
        due("undo", x.undo(), Expect.NOT_POSSIBLE);
        due("clearText", x.clearText(), 0);
    }

    private static void newObjectsApart() {
        LeadRaces one = new LeadRaces();
        LeadRaces other = new LeadRaces();
        LeadRaces third = new LeadRaces();
        one.come(0, 1, 1);
        one.pause(5);
        Expect.typeIn(one, "go 0;");
        Same.compare("an object left alone: ", Same.look(other), Same.look(third));
        Same.compare("one made later: ", Same.look(new LeadRaces()), Same.look(third));
    }

    /** come: "lane: 0 to 7" */
    private static void comeLanes() {
        range("come, lane", 0, 7, Setups::empty, (x, lane) -> x.come(lane, 0, 0));
        for (int lane = 0; lane < 8; lane++) {
            LeadRaces x = new LeadRaces();
            due("come(" + lane + ", -1, -1)", x.come(lane, -1, -1), lane);
            for (int other = 0; other < 8; other++) {
                due("its place alone", x.runnerOf(other, 0), other == lane ? -1 : Expect.NOT_FOUND);
            }
        }
    }

    /** come: "place: -9999 to 9999" */
    private static void comePlaces() {
        range("come, place", -9999, 9999, Setups::empty, (x, place) -> x.come(4, place, 0));
        int[] places = {-9999, -9998, -1, 0, 1, 9998, 9999};
        for (int place : places) {
            LeadRaces x = new LeadRaces();
            due("come(4, " + place + ", 0)", x.come(4, place, 0), 4);
            due("its place", x.runnerOf(4, 0), place);
        }
    }

    /** come: "speed: -99 to 99" */
    private static void comeSpeeds() {
        range("come, speed", -99, 99, Setups::empty, (x, speed) -> x.come(4, 0, speed));
        int[] speeds = {-99, -98, -1, 0, 1, 98, 99};
        for (int speed : speeds) {
            LeadRaces x = new LeadRaces();
            due("come(4, 0, " + speed + ")", x.come(4, 0, speed), 4);
            due("its speed", x.runnerOf(4, 1), speed);
        }
        LeadRaces y = new LeadRaces();
        due("all at their least", y.come(0, -9999, -99), 0);
        due("all at their most", y.come(7, 9999, 99), 7);
    }

    /** come: "Returns the lane of the leader then" */
    private static void comeReturnsTheLeader() {
        LeadRaces x = new LeadRaces();
        due("the first one", x.come(3, 10, 0), 3);
        due("1 behind", x.come(2, 9, 99), 3);
        due("level in a higher lane", x.come(4, 10, 99), 3);
        due("level in a lower lane", x.come(1, 10, 0), 1);
        due("1 ahead in a higher lane", x.come(7, 11, 0), 7);
        due("far behind", x.come(0, -9999, 0), 7);
    }

    /** come: "NOT_POSSIBLE if there is one in this lane" */
    private static void comeToAFullLane() {
        for (int lane = 0; lane < 8; lane++) {
            LeadRaces x = new LeadRaces();
            x.come(lane, 1, 1);
            for (int other = 0; other < 8; other++) {
                due("come(" + other + ", 0, 0)", x.come(other, 0, 0), other == lane ? Expect.NOT_POSSIBLE : lane);
            }
            due("the lane is full", x.come(lane, 1, 1), Expect.NOT_POSSIBLE);
            x.go(lane);
            due("empty again, level with all others", x.come(lane, 0, 0), 0);
            due("its place is the new one", x.runnerOf(lane, 0), 0);
            due("its speed, too", x.runnerOf(lane, 1), 0);
        }
    }

    /** go: "lane: 0 to 7" */
    private static void goLanes() {
        range("go, lane", 0, 7, Setups::full, (x, lane) -> x.go(lane));
        range("go, lane, without runners", 0, 7, Setups::empty, (x, lane) -> x.go(lane));
    }

    /** go: "Returns how many are left" */
    private static void goReturnsHowManyAreLeft() {
        LeadRaces x = Setups.full();
        int[] order = {7, 0, 3, 4, 1, 6, 2, 5};
        for (int i = 0; i < 8; i++) {
            due("go(" + order[i] + ")", x.go(order[i]), 7 - i);
            due("runners", x.count(0), 7 - i);
            due("it is not there", x.runnerOf(order[i], 0), Expect.NOT_FOUND);
        }
        due("none leads", x.leader(), Expect.NOT_FOUND);
        due("comes anew", x.come(5, 1, 1), 5);
        due("the only one goes", x.go(5), 0);
    }

    /** go: "NOT_POSSIBLE if there is none in this lane" */
    private static void goFromAnEmptyLane() {
        for (int lane = 0; lane < 8; lane++) {
            LeadRaces x = Setups.full();
            due("go(" + lane + ")", x.go(lane), 7);
            due("go again", x.go(lane), Expect.NOT_POSSIBLE);
            due("seven are left", x.count(0), 7);
            LeadRaces y = new LeadRaces();
            y.come(lane, 0, 0);
            due("another lane", y.go((lane + 1) % 8), Expect.NOT_POSSIBLE);
            due("another lane", y.go((lane + 7) % 8), Expect.NOT_POSSIBLE);
            due("this one", y.go(lane), 0);
        }
    }

    /** speed: "lane: 0 to 7" */
    private static void speedLanes() {
        range("speed, lane", 0, 7, Setups::full, (x, lane) -> x.speed(lane, 0));
        for (int lane = 0; lane < 8; lane++) {
            LeadRaces x = Setups.full();
            due("speed(" + lane + ", -5)", x.speed(lane, -5), 2 * lane);
            for (int other = 0; other < 8; other++) {
                due("of this lane alone", x.runnerOf(other, 1), other == lane ? -5 : 2 * other);
            }
        }
    }

    /** speed: "speed: -99 to 99" */
    private static void speedRange() {
        range("speed, speed", -99, 99, Setups::full, (x, speed) -> x.speed(2, speed));
        int[] speeds = {-99, -98, -1, 0, 1, 98, 99};
        for (int speed : speeds) {
            LeadRaces x = Setups.full();
            due("speed(2, " + speed + ")", x.speed(2, speed), 4);
            due("its speed", x.runnerOf(2, 1), speed);
            int place = x.runnerOf(2, 0);
            x.pause(1);
            due("its place then", x.runnerOf(2, 0), place + speed);
        }
    }

    /** speed: "Returns what it was" */
    private static void speedReturnsWhatItWas() {
        LeadRaces x = new LeadRaces();
        x.come(6, 0, -99);
        int[] speeds = {99, -99, 0, 0, -1, 98, -98, 1};
        int before = -99;
        for (int speed : speeds) {
            due("speed(6, " + speed + ")", x.speed(6, speed), before);
            before = speed;
        }
        x.undo();
        due("behind undo", x.speed(6, 5), -98);
        x.pause(9);
        due("behind moments", x.speed(6, 6), 5);
        x.jump(6, 9);
        due("behind a jump", x.speed(6, 7), 6);
    }

    /** speed: "NOT_POSSIBLE if there is none in this lane" */
    private static void speedOfNone() {
        for (int lane = 0; lane < 8; lane++) {
            LeadRaces x = Setups.full();
            due("speed", x.speed(lane, 1), 2 * lane);
            x.go(lane);
            due("who went has none", x.speed(lane, 1), Expect.NOT_POSSIBLE);
            x.come(lane, 0, -3);
            due("who came has a new one", x.speed(lane, 1), -3);
        }
    }

    /** jump: "lane: 0 to 7" */
    private static void jumpLanes() {
        range("jump, lane", 0, 7, Setups::full, (x, lane) -> x.jump(lane, 0));
        for (int lane = 0; lane < 8; lane++) {
            LeadRaces x = Setups.full();
            due("jump(" + lane + ", 100)", x.jump(lane, 100), lane);
            for (int other = 0; other < 8; other++) {
                due("of this lane alone", x.runnerOf(other, 0), 5 - 7 * other + (other == lane ? 100 : 0));
            }
        }
    }

    /** jump: "way: -999 to 999: by how much the place becomes greater" */
    private static void jumpWays() {
        range("jump, way", -999, 999, Setups::full, (x, way) -> x.jump(2, way));
        int[] ways = {-999, -998, -1, 0, 1, 998, 999};
        for (int way : ways) {
            LeadRaces x = Setups.full();
            due("jump(2, " + way + ")", x.jump(2, way), way > 14 ? 2 : 0);
            due("its place", x.runnerOf(2, 0), way - 9);
            due("its speed stays", x.runnerOf(2, 1), 4);
            due("the time stays", x.count(1), 0);
        }
    }

    /** jump: "Returns the lane of the leader then" */
    private static void jumpReturnsTheLeader() {
        LeadRaces x = new LeadRaces();
        x.come(2, 10, 0);
        x.come(5, 10, 0);
        due("1 ahead", x.jump(5, 1), 5);
        due("level again", x.jump(5, -1), 2);
        due("1 behind", x.jump(2, -1), 5);
        due("level again", x.jump(2, 1), 2);
        due("far behind", x.jump(2, -999), 5);
        due("far ahead", x.jump(2, 999), 2);
        x.come(0, 9, 0);
        due("level in a lower lane", x.jump(0, 1), 0);
    }

    /** jump: "NOT_POSSIBLE if there is none in this lane" */
    private static void jumpOfNone() {
        for (int lane = 0; lane < 8; lane++) {
            LeadRaces x = Setups.full();
            x.go(lane);
            due("who went can't", x.jump(lane, 1), Expect.NOT_POSSIBLE);
            x.come(lane, 500, 0);
            due("who came can", x.jump(lane, 1), lane);
        }
    }

    /** jump: "LIMIT_REACHED if the place would be beyond -1000000 to 1000000" */
    private static void jumpToTheLimit() {
        for (int sign = -1; sign <= 1; sign += 2) {
            int[][] cases = {{999001, 998, 1}, {999001, 999, 1}, {999002, 998, 1}, {999002, 999, 0}, {999999, 1, 1},
                {999999, 2, 0}, {1000000, 0, 1}, {1000000, 1, 0}, {1000000, -1, 1}, {999998, 1, 1}, {999998, 2, 1},
                {999998, 3, 0}};
            for (int[] a : cases) {
                LeadRaces x = Setups.far(sign * a[0]);
                String told = "jump by " + sign * a[1] + " from " + sign * a[0];
                due("the place", x.runnerOf(3, 0), sign * a[0]);
                due(told, x.jump(3, sign * a[1]), a[2] == 1 ? 3 : Expect.LIMIT);
                due(told + ", place", x.runnerOf(3, 0), sign * (a[2] == 1 ? a[0] + a[1] : a[0]));
            }
        }
    }

    /** Moments carry on over the limit, which is one of jumps; who jumps has to end within it. */
    private static void jumpFromBeyond() {
        for (int sign = -1; sign <= 1; sign += 2) {
            LeadRaces x = Setups.far(sign * 1000000);
            due("speed", x.speed(3, sign * 99), 0);
            due("moments", x.pause(8), 0);
            due("beyond", x.runnerOf(3, 0), sign * 1000792);
            due("no way", x.jump(3, 0), Expect.LIMIT);
            due("to 1 beyond", x.jump(3, -sign * 791), Expect.LIMIT);
            due("to the limit", x.jump(3, -sign * 792), 3);
            due("at the limit", x.runnerOf(3, 0), sign * 1000000);
            due("not back", x.jump(3, sign), Expect.LIMIT);
        }
    }

    /** pause: "moments: 1 to 500" */
    private static void pauseMoments() {
        range("pause, moments", 1, 500, Setups::empty, (x, moments) -> x.pause(moments));
        int[] some = {1, 2, 499, 500};
        for (int moments : some) {
            LeadRaces x = new LeadRaces();
            due("pause(" + moments + ")", x.pause(moments), 0);
            due("time", x.count(1), moments);
            x.come(1, 0, -1);
            due("pause(" + moments + ")", x.pause(moments), 0);
            due("time", x.count(1), 2 * moments);
            due("place", x.runnerOf(1, 0), -moments);
            due("led", x.runnerOf(1, 4), moments);
        }
    }

    /** pause: "Returns how often another runner leads than in the moment before, in them" */
    private static void pauseReturnsOtherLeaders() {
        for (int moments = 1; moments < 13; moments++) {
            LeadRaces x = new LeadRaces();
            x.come(4, 10, 0);
            x.come(3, 6, 1);
            x.come(5, -13, 3);
            // 3 is level in 4, and leads as the lower lane; 5 is ahead of it in 10 (17 > 16)
            due("pause(" + moments + ")", x.pause(moments), moments < 4 ? 0 : moments < 10 ? 1 : 2);
            due("leader", x.leader(), moments < 4 ? 4 : moments < 10 ? 3 : 5);
        }
        LeadRaces y = new LeadRaces();
        due("none", y.pause(5), 0);
        y.come(0, 0, 99);
        due("one alone, who came ahead of the moments", y.pause(5), 0);
        y.come(1, 500, 99);
        due("another one, who leads already", y.pause(5), 0);
        y.go(1);
        due("the first one, who leads again already", y.pause(5), 0);
        y.go(0);
        due("none again", y.pause(5), 0);
    }

    /** Seven other leaders in as many moments, and several overtakers in one, who count once. */
    private static void pauseThroughManyLeaders() {
        LeadRaces x = new LeadRaces();
        for (int lane = 0; lane < 8; lane++) {
            // level with the lane below it in the moment lane - 1, so ahead of it from the moment lane on
            x.come(lane, -lane * (lane - 1) / 2, lane);
        }
        for (int moment = 0; moment < 8; moment++) {
            due("leads in " + moment, x.leadsAt(moment), moment);
        }
        due("seven moments", x.pause(7), 7);
        due("put down", x.count(3), 8);
        for (int moment = 0; moment < 8; moment++) {
            due("leader in " + moment, x.ledBy(7 - moment, 0), moment);
            due("its moment", x.ledBy(7 - moment, 1), moment);
            due("led", x.runnerOf(moment, 4), moment == 0 ? 0 : 1);
        }
        LeadRaces y = new LeadRaces();
        y.come(0, 1, 0);
        for (int lane = 1; lane < 8; lane++) {
            y.come(lane, 0, 10 + lane);
        }
        due("seven overtake in one moment", y.pause(1), 1);
        due("the fastest leads", y.leader(), 7);
        due("it alone is put down", y.count(3), 2);
        due("no more of them", y.pause(500), 0);
    }

    /** pause: "LIMIT_REACHED if the time would be above 9000" */
    private static void pauseUpToTheLimit() {
        int[][] cases = {{8500, 499, 1}, {8500, 500, 1}, {8501, 499, 1}, {8501, 500, 0}, {8998, 1, 1}, {8998, 2, 1},
            {8998, 3, 0}, {8999, 1, 1}, {8999, 2, 0}, {9000, 1, 0}, {9000, 500, 0}};
        for (int[] a : cases) {
            LeadRaces x = Setups.at(a[0]);
            due("at " + a[0] + ": pause(" + a[1] + ")", x.pause(a[1]), a[2] == 1 ? 0 : Expect.LIMIT);
            due("time", x.count(1), a[2] == 1 ? a[0] + a[1] : a[0]);
            due("place", x.runnerOf(4, 0), x.count(1));
            due("out of range first", x.pause(0), Expect.INVALID);
            due("out of range first", x.pause(501), Expect.INVALID);
        }
    }

    /** At the latest moment all other calls go on. */
    private static void callsAtTheLimit() {
        LeadRaces x = Setups.at(9000);
        due("come", x.come(0, 9999, 99), 0);
        due("its race was run in", x.raceOf(0, 4), 9000);
        due("put down in", x.ledBy(0, 1), 9000);
        due("speed", x.speed(0, -99), 99);
        due("jump", x.jump(0, -999), 0);
        due("a race that ends behind the limit", x.raceOf(6, 2), 9001);
        due("the next run", x.nextRun(), 9001);
        due("row", x.row(1, 1), 9001);
        due("settled", x.settledAt(), 9001);
        due("go", x.go(0), 2);
        due("play nothing", x.play(), 0);
        due("undo", x.undo(), 3);
        due("undo", x.undo(), 2);
        due("pause", x.pause(1), Expect.LIMIT);
    }
}
