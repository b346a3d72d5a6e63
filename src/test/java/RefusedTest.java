/** "A call that returns an error changes nothing", and which error it is where several apply. */
public final class RefusedTest {
    private static final int MIN = Integer.MIN_VALUE;
    private static final int MAX = Integer.MAX_VALUE;
    private static final int[] NO_LANES = {MIN, -2, -1, 8, 9, MAX};
    /** 60 characters each; the first one has no fault on the object of withText. */
    private static final String FULL_TEXT = "jump 0 0001;jump 1 -0002;speed 0 0003;speed 1 -004;wait 500;";
    private static final String FULL_WITH_FAULT = "go 0;go 1;come 0 -9999 -99;come 1 +1 01;speed 1 5;jump 1 -1;";

    public static void main(String[] args) {
        comeOutOfRange();
        comeNotPossible();
        goRefused();
        speedRefused();
        jumpRefused();
        jumpBeyond();
        pauseOutOfRange();
        pauseBeyond();
        undoRefused();
        typeOutOfRange();
        typeBeyond();
        playRefused();
        looksRefused();
        looksNotFound();
        changesAfterRefused();
        Expect.finish();
    }

    /** On an empty object, on one with a part of a history, and on those with a whole one. */
    private static void everywhere(String told, Same.Call call, int error) {
        Same.leaves("empty: " + told, Setups::empty, call, error);
        Same.leaves("few: " + told, Setups::few, call, error);
        Same.leaves("busy: " + told, Setups::busy, call, error);
        Same.leaves("full: " + told, Setups::full, call, error);
        Same.leaves("at the end: " + told, () -> Setups.at(9000), call, error);
    }

    private static void comeOutOfRange() {
        for (int lane : NO_LANES) {
            everywhere("come(" + lane + ", 0, 0)", x -> x.come(lane, 0, 0), Expect.INVALID);
        }
        int[] places = {MIN, -10001, -10000, 10000, 10001, MAX};
        for (int place : places) {
            everywhere("come(0, " + place + ", 0)", x -> x.come(0, place, 0), Expect.INVALID);
        }
        int[] speeds = {MIN, -101, -100, 100, 101, MAX};
        for (int speed : speeds) {
            everywhere("come(7, 0, " + speed + ")", x -> x.come(7, 0, speed), Expect.INVALID);
        }
    }

    private static void comeNotPossible() {
        for (int i = 0; i < 8; i++) {
            int lane = i;
            Same.leaves("full: come(" + lane + ", 9999, 99)", Setups::full,
                    x -> x.come(lane, 9999, 99), Expect.NOT_POSSIBLE);
            Same.leaves("full: come(" + lane + ", 10000, 0): out of range first", Setups::full,
                    x -> x.come(lane, 10000, 0), Expect.INVALID);
            Same.leaves("full: come(" + lane + ", 0, -100): out of range first", Setups::full,
                    x -> x.come(lane, 0, -100), Expect.INVALID);
        }
        Same.leaves("busy: come(5, 39, -2), as it is", Setups::busy, x -> x.come(5, 39, -2), Expect.NOT_POSSIBLE);
    }

    private static void goRefused() {
        for (int lane : NO_LANES) {
            everywhere("go(" + lane + ")", x -> x.go(lane), Expect.INVALID);
        }
        for (int i = 0; i < 8; i++) {
            int lane = i;
            Same.leaves("empty: go(" + lane + ")", Setups::empty, x -> x.go(lane), Expect.NOT_POSSIBLE);
        }
        Same.leaves("busy: go(4)", Setups::busy, x -> x.go(4), Expect.NOT_POSSIBLE);
        Same.leaves("busy: go(7)", Setups::busy, x -> x.go(7), Expect.NOT_POSSIBLE);
    }

    private static void speedRefused() {
        for (int lane : NO_LANES) {
            everywhere("speed(" + lane + ", 0)", x -> x.speed(lane, 0), Expect.INVALID);
        }
        int[] speeds = {MIN, -101, -100, 100, 101, MAX};
        for (int speed : speeds) {
            everywhere("speed(0, " + speed + "): also without a runner", x -> x.speed(0, speed), Expect.INVALID);
        }
        for (int i = 0; i < 8; i++) {
            int lane = i;
            Same.leaves("empty: speed(" + lane + ", 99)", Setups::empty, x -> x.speed(lane, 99),
                    Expect.NOT_POSSIBLE);
        }
        Same.leaves("busy: speed(4, -99)", Setups::busy, x -> x.speed(4, -99), Expect.NOT_POSSIBLE);
        Same.leaves("busy: speed(7, 0)", Setups::busy, x -> x.speed(7, 0), Expect.NOT_POSSIBLE);
    }

    private static void jumpRefused() {
        for (int lane : NO_LANES) {
            everywhere("jump(" + lane + ", 0)", x -> x.jump(lane, 0), Expect.INVALID);
        }
        int[] ways = {MIN, -1001, -1000, 1000, 1001, MAX};
        for (int way : ways) {
            everywhere("jump(1, " + way + "): also without a runner", x -> x.jump(1, way), Expect.INVALID);
        }
        for (int i = 0; i < 8; i++) {
            int lane = i;
            Same.leaves("empty: jump(" + lane + ", 999)", Setups::empty, x -> x.jump(lane, 999),
                    Expect.NOT_POSSIBLE);
        }
        Same.leaves("busy: jump(4, -999)", Setups::busy, x -> x.jump(4, -999), Expect.NOT_POSSIBLE);
        Same.leaves("busy: jump(7, 0)", Setups::busy, x -> x.jump(7, 0), Expect.NOT_POSSIBLE);
    }

    private static void jumpBeyond() {
        for (int i = -1; i <= 1; i += 2) {
            int sign = i;
            Same.Setup atLimit = () -> Setups.far(sign * 1000000);
            Same.leaves("at the limit: by 1", atLimit, x -> x.jump(3, sign), Expect.LIMIT);
            Same.leaves("at the limit: by 999", atLimit, x -> x.jump(3, sign * 999), Expect.LIMIT);
            Same.leaves("at the limit: by 1000, out of range first", atLimit,
                    x -> x.jump(3, sign * 1000), Expect.INVALID);
            Same.leaves("at the limit: another lane, not possible first", atLimit,
                    x -> x.jump(2, sign * 999), Expect.NOT_POSSIBLE);
            Same.Setup near = () -> Setups.far(sign * 999999);
            Same.leaves("1 ahead of the limit: by 2", near, x -> x.jump(3, sign * 2), Expect.LIMIT);
        }
    }

    private static void pauseOutOfRange() {
        int[] moments = {MIN, -500, -1, 0, 501, 502, 9001, MAX};
        for (int some : moments) {
            everywhere("pause(" + some + ")", x -> x.pause(some), Expect.INVALID);
        }
    }

    private static void pauseBeyond() {
        int[][] late = {{9000, 1}, {9000, 500}, {8999, 2}, {8999, 500}, {8998, 3}, {8501, 500}, {8600, 401}};
        for (int[] a : late) {
            Same.leaves("at " + a[0] + ": pause(" + a[1] + ")", () -> Setups.at(a[0]),
                    x -> x.pause(a[1]), Expect.LIMIT);
        }
    }

    private static void undoRefused() {
        Same.leaves("empty: undo", Setups::empty, LeadRaces::undo, Expect.NOT_POSSIBLE);
        Same.leaves("a text alone: undo", RefusedTest::textAlone, LeadRaces::undo, Expect.NOT_POSSIBLE);
        Same.leaves("all undone: undo", RefusedTest::allUndone, LeadRaces::undo, Expect.NOT_POSSIBLE);
    }

    private static LeadRaces textAlone() {
        LeadRaces x = new LeadRaces();
        Expect.typeIn(x, "come 1 1 1;wait 2;");
        return x;
    }

    private static LeadRaces allUndone() {
        LeadRaces x = Setups.busy();
        for (int i = 0; i < 4; i++) {
            x.undo();
        }
        return x;
    }

    private static void typeOutOfRange() {
        int[] characters = {MIN, -1, 0, 10, 31, 127, 128, 256 + 59, 65536 + 59, MAX};
        for (int character : characters) {
            everywhere("type(" + character + ")", x -> x.type(character), Expect.INVALID);
            Same.leaves("60 characters: type(" + character + "): out of range first",
                    () -> Setups.withText(FULL_TEXT), x -> x.type(character), Expect.INVALID);
        }
    }

    private static void typeBeyond() {
        int[] characters = {32, 59, 126};
        for (int character : characters) {
            Same.leaves("60 characters: type(" + character + ")", () -> Setups.withText(FULL_TEXT),
                    x -> x.type(character), Expect.LIMIT);
            Same.leaves("60 with a fault: type(" + character + ")", () -> Setups.withText(FULL_WITH_FAULT),
                    x -> x.type(character), Expect.LIMIT);
            Same.leaves("60 blanks: type(" + character + ")", () -> Setups.withText(" ".repeat(60)),
                    x -> x.type(character), Expect.LIMIT);
        }
        Expect.due("the text is full", Setups.withText(FULL_TEXT).count(5), 60);
        Expect.due("the text is full", Setups.withText(FULL_WITH_FAULT).count(5), 60);
        Expect.due("the first one is possible", Setups.withText(FULL_TEXT).play(), 5);
    }

    private static void playRefused() {
        String[] texts = {" ", ";", "wait 1", "wait 1;wait 0;", "go 0;go 0;", "come 2 0 0;come 2 0 0;",
            "wait 500;go 1;go 1;wait 1;", "speed 0 100;", "wait 9;jump 0 1000;", FULL_WITH_FAULT};
        for (String text : texts) {
            Same.leaves("play '" + text + "'", () -> Setups.withText(text), LeadRaces::play, Expect.NOT_POSSIBLE);
        }
        Same.leaves("full: play", Setups::full, LeadRaces::play, Expect.NOT_POSSIBLE);
        Same.leaves("at 8999: play 'wait 2;'", () -> lateText("wait 2;"), LeadRaces::play, Expect.NOT_POSSIBLE);
        Same.leaves("at 8999: play 'wait 1;wait 1;'", () -> lateText("wait 1;wait 1;"), LeadRaces::play,
                Expect.NOT_POSSIBLE);
    }

    private static LeadRaces lateText(String text) {
        LeadRaces x = Setups.at(8999);
        Expect.typeIn(x, text);
        return x;
    }

    private static void looksRefused() {
        int[] wrong = {MIN, -1, 5, MAX};
        for (int what : wrong) {
            everywhere("runnerOf(0, " + what + ")", x -> x.runnerOf(0, what), Expect.INVALID);
            everywhere("raceOf(0, " + what + ")", x -> x.raceOf(0, what), Expect.INVALID);
        }
        for (int lane : NO_LANES) {
            everywhere("runnerOf(" + lane + ", 0)", x -> x.runnerOf(lane, 0), Expect.INVALID);
        }
        int[] races = {MIN, -1, 7, 8, MAX};
        for (int race : races) {
            everywhere("raceOf(" + race + ", 3)", x -> x.raceOf(race, 3), Expect.INVALID);
            everywhere("count(" + race + ")", x -> x.count(race), Expect.INVALID);
        }
        int[] neither = {MIN, -1, 2, MAX};
        for (int what : neither) {
            everywhere("ledBy(0, " + what + ")", x -> x.ledBy(0, what), Expect.INVALID);
            everywhere("ledBy(9, " + what + ")", x -> x.ledBy(9, what), Expect.INVALID);
            everywhere("row(0, " + what + ")", x -> x.row(0, what), Expect.INVALID);
            everywhere("row(9, " + what + ")", x -> x.row(9, what), Expect.INVALID);
        }
        int[] below = {MIN, -1};
        for (int index : below) {
            everywhere("ledBy(" + index + ", 0)", x -> x.ledBy(index, 0), Expect.INVALID);
            everywhere("row(" + index + ", 1)", x -> x.row(index, 1), Expect.INVALID);
            everywhere("leadsAt(" + index + ")", x -> x.leadsAt(index), Expect.INVALID);
        }
        everywhere("leadsAt(20001)", x -> x.leadsAt(20001), Expect.INVALID);
        everywhere("leadsAt of all", x -> x.leadsAt(MAX), Expect.INVALID);
        int[] faults = {MIN, -1, 3, MAX};
        for (int what : faults) {
            everywhere("fault(" + what + ")", x -> x.fault(what), Expect.INVALID);
        }
    }

    private static void looksNotFound() {
        for (int i = 0; i < 5; i++) {
            int what = i;
            Same.leaves("empty: runnerOf", Setups::empty, x -> x.runnerOf(7, what), Expect.NOT_FOUND);
            Same.leaves("busy: runnerOf", Setups::busy, x -> x.runnerOf(7, what), Expect.NOT_FOUND);
        }
        int[] ofRace = {0, 1, 2, 4};
        for (int what : ofRace) {
            Same.leaves("busy: raceOf", Setups::busy, x -> x.raceOf(1, what), Expect.NOT_FOUND);
        }
        Same.leaves("empty: leader", Setups::empty, LeadRaces::leader, Expect.NOT_FOUND);
        Same.leaves("empty: leadsAt", Setups::empty, x -> x.leadsAt(0), Expect.NOT_FOUND);
        Same.leaves("empty: settledAt", Setups::empty, LeadRaces::settledAt, Expect.NOT_FOUND);
        Same.leaves("empty: nextRun", Setups::empty, LeadRaces::nextRun, Expect.NOT_FOUND);
        Same.leaves("empty: meanBits", Setups::empty, LeadRaces::meanBits, Expect.NOT_FOUND);
        Same.leaves("empty: row", Setups::empty, x -> x.row(0, 0), Expect.NOT_FOUND);
        Same.leaves("full: row", Setups::full, x -> x.row(8, 0), Expect.NOT_FOUND);
        Same.leaves("empty: ledBy", Setups::empty, x -> x.ledBy(0, 0), Expect.NOT_FOUND);
        Same.leaves("busy: ledBy", Setups::busy, x -> x.ledBy(8, 1), Expect.NOT_FOUND);
        Same.leaves("empty: fault", Setups::empty, x -> x.fault(0), Expect.NOT_FOUND);
        Same.leaves("few: fault", Setups::few, x -> x.fault(1), Expect.NOT_FOUND);
        Same.leaves("a fault of form: its cause", () -> Setups.withText("wait 1"), x -> x.fault(2),
                Expect.NOT_FOUND);
    }

    /** Behind refused calls the next change is recorded and undone as if they had not been. */
    private static void changesAfterRefused() {
        LeadRaces asked = Setups.busy();
        LeadRaces twin = Setups.busy();
        Expect.due("refused", asked.come(5, 1, 1), Expect.NOT_POSSIBLE);
        Expect.due("refused", asked.pause(501), Expect.INVALID);
        Expect.due("then a change", asked.pause(3), twin.pause(3));
        Expect.due("refused", asked.go(7), Expect.NOT_POSSIBLE);
        Expect.due("then a change", asked.go(6), twin.go(6));
        Expect.due("refused", asked.speed(6, 1), Expect.NOT_POSSIBLE);
        Expect.due("then undo", asked.undo(), twin.undo());
        Expect.due("refused", asked.jump(6, 1000), Expect.INVALID);
        Expect.due("then undo", asked.undo(), twin.undo());
        Same.compare("behind all, ", Same.look(asked), Same.look(twin));
    }
}
