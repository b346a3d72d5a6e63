/** Promises 12 to 17: leadsAt, settledAt, row, nextRun, meanBits, undo. */
public final class OutlookTest {
    public static void main(String[] args) {
        leadsAt();
        settledAt();
        settledLate();
        row();
        rowOfAll();
        rowSkips();
        nextRun();
        meanBits();
        undo();
        undoBeyondFour();
        undoRestoresAll();
        Expect.finish();
    }

    private static void due(String call, int got, int want) {
        Expect.due(call, got, want);
    }

    private static void leadsAt() {
        LeadRaces x = new LeadRaces();
        due("without runners", x.leadsAt(0), Expect.NOT_FOUND);
        due("out of range first", x.leadsAt(20001), Expect.INVALID);
        x.come(0, 0, 1);
        x.come(1, -9998, 2);
        due("now", x.leadsAt(0), 0);
        due("level", x.leadsAt(9998), 0);
        due("behind that", x.leadsAt(9999), 1);
        due("at the latest", x.leadsAt(20000), 1);
        due("leadsAt(20001)", x.leadsAt(20001), Expect.INVALID);
        due("leadsAt(-1)", x.leadsAt(-1), Expect.INVALID);
        x.pause(3);
        due("the past", x.leadsAt(2), Expect.INVALID);
        due("the present", x.leadsAt(3), 0);
        due("as before", x.leadsAt(9998), 0);
        due("as before", x.leadsAt(9999), 1);
        x.speed(0, -99);
        due("to the other side", x.leadsAt(20000), 1);
    }

    private static void settledAt() {
        LeadRaces x = new LeadRaces();
        due("without runners", x.settledAt(), Expect.NOT_FOUND);
        x.come(3, 0, 0);
        due("one alone", x.settledAt(), 0);
        x.pause(5);
        due("the present moment", x.settledAt(), 5);
        x.come(4, 0, 0);
        due("level for ever", x.settledAt(), 5);
        x.come(5, -1, 1);
        due("ahead of lower lanes", x.settledAt(), 5 + 2);
        x.come(2, -3, 1);
        due("the slow one behind at the same speed", x.settledAt(), 5 + 2);
        x.come(1, -20, 2);
        due("the fastest, level with 5 and in a lower lane", x.settledAt(), 5 + 19);
        x.pause(10);
        due("the same moment later on", x.settledAt(), 24);
        x.pause(14);
        due("up to then", x.settledAt(), 29);
    }

    private static void settledLate() {
        LeadRaces x = new LeadRaces();
        x.come(0, 9999, 0);
        x.come(7, -9999, 1);
        due("after the latest moment", x.settledAt(), 19999);
        x.speed(0, 99);
        x.pause(500);
        x.pause(500);
        x.speed(0, 0);
        // 0 is at 108999 and 7 at -8999
        due("far later", x.settledAt(), 1000 + 117999);
        due("so the row", x.row(1, 1), 118999);
        due("and the race", x.raceOf(6, 2), 118999);
        due("and the next run", x.nextRun(), 118999);
    }

    private static void row() {
        LeadRaces x = new LeadRaces();
        due("without runners", x.row(0, 0), Expect.NOT_FOUND);
        due("row(-1, 0)", x.row(-1, 0), Expect.INVALID);
        due("row(0, -1)", x.row(0, -1), Expect.INVALID);
        due("row(0, 2)", x.row(0, 2), Expect.INVALID);
        x.pause(7);
        x.come(2, 10, 0);
        x.come(1, 0, 2);
        x.come(6, -21, 4);
        due("the present one", x.row(0, 0), 2);
        due("from now on", x.row(0, 1), 7);
        due("the next one", x.row(1, 0), 1);
        due("level at 10", x.row(1, 1), 7 + 5);
        due("the last one", x.row(2, 0), 6);
        due("4k - 21 > 2k", x.row(2, 1), 7 + 11);
        due("no more", x.row(3, 0), Expect.NOT_FOUND);
        due("no more", x.row(3, 1), Expect.NOT_FOUND);
        due("far more", x.row(Integer.MAX_VALUE, 1), Expect.NOT_FOUND);
        due("out of range first", x.row(99, 2), Expect.INVALID);
        x.pause(5);
        due("the next one is present", x.row(0, 0), 1);
        due("from now on", x.row(0, 1), 12);
        due("then the last one", x.row(1, 1), 18);
        LeadRaces y = new LeadRaces();
        y.come(7, 3, -1);
        y.come(0, 0, 0);
        due("lane 0 after lane 7", y.row(1, 0), 0);
        due("when level", y.row(1, 1), 3);
        y.come(3, -9, 9);
        due("who comes stands in it", y.row(1, 0), 3);
        y.go(3);
        due("who went does not", y.row(1, 0), 0);
        due("nor does its moment", y.row(1, 1), 3);
        due("nor behind", y.row(2, 0), Expect.NOT_FOUND);
    }

    /** Lane k leads from the moment k * k on or so: all eight stand in the row. */
    private static void rowOfAll() {
        LeadRaces x = new LeadRaces();
        for (int lane = 0; lane < 8; lane++) {
            x.come(lane, -10 * lane * lane, 4 * lane);
        }
        for (int lane = 1; lane < 8; lane++) {
            due("row of all, lane", x.row(lane, 0), lane);
            // 4k > 10 (2 lane - 1)
            due("row of all, moment", x.row(lane, 1), 10 * (2 * lane - 1) / 4 + 1);
        }
        due("no ninth", x.row(8, 0), Expect.NOT_FOUND);
        due("settled", x.settledAt(), 33);
        due("pauses through them", x.pause(40), 7);
    }

    /** Two overtake in one moment: the one who is ahead then stands in the row alone. */
    private static void rowSkips() {
        LeadRaces x = new LeadRaces();
        x.come(0, 10, 0);
        x.come(1, 0, 9);
        x.come(2, 0, 10);
        x.come(3, 0, 11);
        x.come(4, -11, 17);
        due("1 to 3 overtake at once or later, 3 is ahead", x.row(1, 0), 3);
        due("in", x.row(1, 1), 1);
        due("the last one", x.row(2, 0), 4);
        due("6k > 11", x.row(2, 1), 2);
        due("no more", x.row(3, 0), Expect.NOT_FOUND);
        due("they do", x.pause(3), 2);
        due("in the first moment", x.ledBy(1, 1), 1);
    }

    private static void nextRun() {
        LeadRaces x = new LeadRaces();
        due("without runners", x.nextRun(), Expect.NOT_FOUND);
        x.come(0, 100, 0);
        due("one alone", x.nextRun(), Expect.NOT_FOUND);
        due("no next one", x.row(1, 0), Expect.NOT_FOUND);
        x.come(4, 0, 0);
        x.come(5, -3, 1);
        due("not of the leader", x.nextRun(), 4);
        x.come(7, 50, 25);
        due("the earliest of all races", x.nextRun(), 3);
        x.pause(3);
        due("the next one", x.nextRun(), 4);
        x.pause(1);
        due("none any more", x.nextRun(), Expect.NOT_FOUND);
        x.speed(0, 26);
        due("a new one", x.nextRun(), 4 + 50);
    }

    private static void meanBits() {
        LeadRaces x = new LeadRaces();
        due("without runners", x.meanBits(), Expect.NOT_FOUND);
        int[] places = {0, 1, -2, 9999, -9999, 7, 9998, 4242};
        int sum = 0;
        for (int lane = 0; lane < 8; lane++) {
            x.come(lane, places[lane], 0);
            sum += places[lane];
            due("mean of " + (lane + 1), x.meanBits(), Float.floatToIntBits((float) sum / (float) (lane + 1)));
        }
        LeadRaces y = new LeadRaces();
        y.come(0, 1, 0);
        due("1", y.meanBits(), 0x3f800000);
        y.come(1, 0, 0);
        due("1/2", y.meanBits(), 0x3f000000);
        y.come(2, 0, 0);
        due("1/3", y.meanBits(), 0x3eaaaaab);
        y.jump(0, -2);
        due("-1/3", y.meanBits(), 0xbeaaaaab);
        y.jump(0, 1);
        due("0", y.meanBits(), 0);
        for (int place = -300; place < 100; place++) {
            LeadRaces z = new LeadRaces();
            z.come(0, 0, 0);
            z.come(1, place, 0);
            z.come(2, 0, 0);
            due("mean of " + place, z.meanBits(), Float.floatToIntBits((float) place / 3f));
        }
    }

    private static void undo() {
        LeadRaces x = new LeadRaces();
        due("nothing", x.undo(), Expect.NOT_POSSIBLE);
        for (int lane = 0; lane < 6; lane++) {
            x.come(lane, lane, 0);
        }
        due("four", x.count(4), 4);
        due("undo", x.undo(), 3);
        due("runners", x.count(0), 5);
        due("undo", x.undo(), 2);
        due("undo", x.undo(), 1);
        due("undo", x.undo(), 0);
        due("runners", x.count(0), 2);
        due("leader", x.leader(), 1);
        due("no more", x.undo(), Expect.NOT_POSSIBLE);
        due("still", x.count(0), 2);
        x.go(0);
        due("one again", x.count(4), 1);
        due("an error is no change", x.go(0), Expect.NOT_POSSIBLE);
        due("one still", x.count(4), 1);
        due("undo is no change", x.undo(), 0);
    }

    /** What is dropped, and what is only tried, leaves the states that are kept alone. */
    private static void undoBeyondFour() {
        LeadRaces x = new LeadRaces();
        for (int i = 1; i <= 9; i++) {
            x.pause(i);
            x.pause(0);
            x.go(0);
            x.fault(0);
        }
        Expect.typeIn(x, "come 0 0 0;wait 9;wait 0;");
        due("tried alone", x.fault(0), 18);
        due("tried again", x.play(), Expect.NOT_POSSIBLE);
        due("time", x.count(1), 45);
        for (int i = 9; i >= 6; i--) {
            x.undo();
            due("time before pause(" + i + ")", x.count(1), i * (i - 1) / 2);
            due("tried there", x.fault(1), 2);
        }
        x.pause(500);
        due("another way from there", x.count(1), 515);
        x.undo();
        due("and back", x.count(1), 15);
    }

    private static void undoRestoresAll() {
        LeadRaces x = new LeadRaces();
        x.come(0, 10, 0);
        x.come(1, 0, 1);
        x.come(5, -30, 3);
        int[] before = state(x);
        x.pause(30);
        x.go(1);
        Expect.typeIn(x, "speed 0 5;jump 5 -3;");
        x.play();
        x.come(7, 9, 9);
        for (int i = 3; i >= 0; i--) {
            due("undo", x.undo(), i);
        }
        int[] after = state(x);
        for (int i = 0; i < before.length; i++) {
            due("state " + i, after[i], before[i]);
        }
        due("the text stays", x.count(5), 20);
        due("and can be done", x.play(), 2);
    }

    private static int[] state(LeadRaces x) {
        int[] state = new int[8 * 5 + 7 * 5 + 16 + 5];
        int n = 0;
        for (int what = 0; what < 5; what++) {
            for (int lane = 0; lane < 8; lane++) {
                state[n++] = x.runnerOf(lane, what);
            }
            for (int race = 0; race < 7; race++) {
                state[n++] = x.raceOf(race, what);
            }
        }
        for (int i = 0; i < 8; i++) {
            state[n++] = x.ledBy(i, 0);
            state[n++] = x.ledBy(i, 1);
        }
        int[] counts = {0, 1, 2, 3, 6};
        for (int what : counts) {
            state[n++] = x.count(what);
        }
        return state;
    }
}
