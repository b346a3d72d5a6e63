/** Promises 7 to 11: runnerOf, raceOf, leader, ledBy, count. */
public final class ViewsTest {
    public static void main(String[] args) {
        runnerOf();
        ledMoments();
        raceOf();
        raceOfOne();
        leader();
        ledBy();
        ledByKeepsEight();
        count();
        countOfForEver();
        looksChangeNothing();
        Expect.finish();
    }

    private static void due(String call, int got, int want) {
        Expect.due(call, got, want);
    }

    private static void runnerOf() {
        LeadRaces x = new LeadRaces();
        x.come(2, -5, 3);
        x.come(4, 10, -1);
        x.come(7, 10, 0);
        due("place", x.runnerOf(2, 0), -5);
        due("speed", x.runnerOf(4, 1), -1);
        due("rank of the leader", x.runnerOf(4, 2), 0);
        due("rank at the same place", x.runnerOf(7, 2), 1);
        due("rank of the last", x.runnerOf(2, 2), 2);
        due("gap of the leader", x.runnerOf(4, 3), 0);
        due("gap at the same place", x.runnerOf(7, 3), 0);
        due("gap", x.runnerOf(2, 3), 15);
        due("led", x.runnerOf(4, 4), 0);
        due("no runner", x.runnerOf(0, 0), Expect.NOT_FOUND);
        due("runnerOf(-1, 0)", x.runnerOf(-1, 0), Expect.INVALID);
        due("runnerOf(8, 0)", x.runnerOf(8, 0), Expect.INVALID);
        due("runnerOf(2, -1)", x.runnerOf(2, -1), Expect.INVALID);
        due("runnerOf(2, 5)", x.runnerOf(2, 5), Expect.INVALID);
        due("out of range first", x.runnerOf(0, 5), Expect.INVALID);
        x.go(4);
        due("rank without the one who went", x.runnerOf(7, 2), 0);
        x.come(0, 10, 0);
        due("rank behind lane 0", x.runnerOf(7, 2), 1);
        due("rank behind both", x.runnerOf(2, 2), 2);
        due("it is not there", x.runnerOf(4, 0), Expect.NOT_FOUND);
    }

    private static void ledMoments() {
        LeadRaces x = new LeadRaces();
        x.come(0, 0, 0);
        x.come(1, -9, 2);
        x.pause(4);
        due("led each moment", x.runnerOf(0, 4), 4);
        x.pause(1);
        due("not the one in which it is overtaken", x.runnerOf(0, 4), 4);
        due("the other one leads behind that one", x.runnerOf(1, 4), 1);
        x.pause(200);
        due("and goes on", x.runnerOf(1, 4), 201);
        x.jump(0, 999);
        due("a jump is no moment", x.runnerOf(0, 4), 4);
        x.pause(1);
        due("then it leads one more", x.runnerOf(0, 4), 5);
        x.go(1);
        x.come(1, 500, 0);
        due("anew since it came", x.runnerOf(1, 4), 0);
    }

    private static void raceOf() {
        LeadRaces x = new LeadRaces();
        x.come(4, 0, 5);
        x.come(5, 12, 1);
        x.pause(1);
        x.come(6, 30, 0);
        due("winner of race 2", x.raceOf(2, 0), 5);
        due("other one of race 2", x.raceOf(2, 1), 4);
        due("race 2 holds up to", x.raceOf(2, 2), 3);
        due("race 2 was run", x.raceOf(2, 3), 2);
        due("race 2 was run in", x.raceOf(2, 4), 0);
        due("race 5's winner", x.raceOf(5, 0), 6);
        due("race 5's other one", x.raceOf(5, 1), 5);
        due("race 5 holds up to: 13 + k > 29", x.raceOf(5, 2), 1 + 17);
        due("race 5 was run", x.raceOf(5, 3), 3);
        due("race 5 was run in", x.raceOf(5, 4), 1);
        due("raceOf(-1, 0)", x.raceOf(-1, 0), Expect.INVALID);
        due("raceOf(7, 0)", x.raceOf(7, 0), Expect.INVALID);
        due("raceOf(0, -1)", x.raceOf(0, -1), Expect.INVALID);
        due("raceOf(0, 5)", x.raceOf(0, 5), Expect.INVALID);
        x.pause(2);
        due("race 2 is run again", x.raceOf(2, 0), 4);
        due("it is behind now", x.raceOf(2, 1), 5);
        due("for ever", x.raceOf(2, 2), Expect.NOT_FOUND);
        due("run three times", x.raceOf(2, 3), 3);
        due("in the moment 3", x.raceOf(2, 4), 3);
        due("race 5, too", x.raceOf(5, 1), 4);
        due("15 + 5k = 30: level, in a lower lane", x.raceOf(5, 2), 3 + 3);
        due("race 6 has one alone", x.raceOf(6, 1), Expect.NOT_FOUND);
    }

    private static void raceOfOne() {
        LeadRaces x = new LeadRaces();
        x.come(3, 1, 1);
        due("one alone wins", x.raceOf(1, 0), 3);
        due("without another", x.raceOf(1, 1), Expect.NOT_FOUND);
        due("has not two", x.raceOf(1, 2), Expect.NOT_FOUND);
        due("race behind it", x.raceOf(4, 0), 3);
        due("last race", x.raceOf(6, 0), 3);
        due("race 0 was not run", x.raceOf(0, 4), Expect.NOT_FOUND);
        due("race 0 has no winner", x.raceOf(0, 0), Expect.NOT_FOUND);
        due("race 5 has no winner", x.raceOf(5, 0), Expect.NOT_FOUND);
        x.go(3);
        due("no winner when it went", x.raceOf(1, 0), Expect.NOT_FOUND);
        due("but run twice", x.raceOf(1, 3), 2);
        due("in the moment 0", x.raceOf(1, 4), 0);
    }

    private static void leader() {
        LeadRaces x = new LeadRaces();
        due("none", x.leader(), Expect.NOT_FOUND);
        for (int lane = 7; lane >= 0; lane--) {
            x.come(lane, 0, lane);
            due("the lowest lane at the same place", x.leader(), lane);
        }
        x.pause(1);
        due("the fastest", x.leader(), 7);
        x.jump(3, 5);
        due("who jumped", x.leader(), 3);
        x.undo();
        due("again", x.leader(), 7);
    }

    private static void ledBy() {
        LeadRaces x = new LeadRaces();
        x.pause(2);
        x.come(5, 0, 0);
        x.come(6, -10, 0);
        due("put down once", x.count(3), 1);
        due("lane", x.ledBy(0, 0), 5);
        due("moment", x.ledBy(0, 1), 2);
        x.pause(1);
        x.go(5);
        due("the next one", x.ledBy(0, 0), 6);
        due("moment", x.ledBy(0, 1), 3);
        due("the one before", x.ledBy(1, 0), 5);
        due("its moment", x.ledBy(1, 1), 2);
        x.go(6);
        due("none any more", x.ledBy(0, 0), -1);
        due("moment", x.ledBy(0, 1), 3);
        x.come(6, 0, 0);
        due("one again", x.ledBy(0, 0), 6);
        due("four times", x.count(3), 4);
        due("the oldest one", x.ledBy(3, 0), 5);
        due("not so many", x.ledBy(4, 0), Expect.NOT_FOUND);
        due("ledBy(-1, 0)", x.ledBy(-1, 0), Expect.INVALID);
        due("ledBy(0, -1)", x.ledBy(0, -1), Expect.INVALID);
        due("ledBy(0, 2)", x.ledBy(0, 2), Expect.INVALID);
        due("out of range first", x.ledBy(99, 2), Expect.INVALID);
        due("ledBy of all", x.ledBy(Integer.MAX_VALUE, 0), Expect.NOT_FOUND);
        x.undo();
        due("undone", x.count(3), 3);
        due("undone, too", x.ledBy(0, 0), -1);
    }

    private static void ledByKeepsEight() {
        LeadRaces x = new LeadRaces();
        for (int lane = 0; lane < 8; lane++) {
            x.come(lane, lane, 0);
            x.pause(1);
        }
        due("eight", x.count(3), 8);
        due("the eighth", x.ledBy(7, 0), 0);
        due("its moment", x.ledBy(7, 1), 0);
        due("the latest", x.ledBy(0, 0), 7);
        x.jump(0, 8);
        x.jump(1, 8);
        due("ten", x.count(3), 10);
        due("the eighth of ten", x.ledBy(7, 0), 2);
        due("its moment", x.ledBy(7, 1), 2);
        due("the ninth is dropped", x.ledBy(8, 0), Expect.NOT_FOUND);
        due("the latest", x.ledBy(0, 0), 1);
        due("its moment", x.ledBy(0, 1), 8);
        x.undo();
        x.undo();
        due("undone, the first one is there again", x.ledBy(7, 0), 0);
    }

    private static void count() {
        LeadRaces x = new LeadRaces();
        x.come(0, 10, 0);
        x.come(1, 0, 1);
        x.come(4, -5, 0);
        x.pause(7);
        due("runners", x.count(0), 3);
        due("time", x.count(1), 7);
        due("races run", x.count(2), 9);
        due("put down", x.count(3), 1);
        due("states", x.count(4), 4);
        x.pause(4);
        due("races run when 1 overtakes 0", x.count(2), 12);
        due("states are four at most", x.count(4), 4);
        Expect.typeIn(x, "go 1");
        due("length of the text", x.count(5), 4);
        due("count(-1)", x.count(-1), Expect.INVALID);
        due("count(7)", x.count(7), Expect.INVALID);
        x.undo();
        due("races run undone", x.count(2), 9);
        due("the text is not undone", x.count(5), 4);
    }

    private static void countOfForEver() {
        LeadRaces x = new LeadRaces();
        x.come(0, 10, 0);
        due("one alone does not hold for ever", x.count(6), 0);
        x.come(1, 10, 0);
        due("at the same speed", x.count(6), 1);
        x.come(7, 9, 1);
        due("the last one has an end", x.count(6), 1);
        x.come(5, 8, 1);
        due("race 5 for ever: 7 is ahead of 5", x.count(6), 1 + 32);
        x.speed(7, 0);
        due("race 6 for ever, 5 not: 5 is faster", x.count(6), 1 + 64);
        x.pause(2);
        due("run again in the moment 1", x.raceOf(5, 4), 1);
        due("its winner is behind 0, and faster", x.raceOf(6, 1), 5);
        due("10 + k > 10", x.raceOf(6, 2), 3);
        due("no race has two for ever but 0 and 5", x.count(6), 1 + 32);
    }

    private static void looksChangeNothing() {
        LeadRaces x = new LeadRaces();
        x.come(0, 10, 0);
        x.come(1, 0, 1);
        Expect.typeIn(x, "wait 50;go 0;");
        for (int i = 0; i < 3; i++) {
            x.settledAt();
            x.row(1, 0);
            x.nextRun();
            x.leadsAt(500);
            x.fault(0);
            x.meanBits();
        }
        due("time", x.count(1), 0);
        due("races run", x.count(2), 6);
        due("states", x.count(4), 2);
        due("runners", x.count(0), 2);
        due("leader", x.leader(), 0);
    }
}
