/** Objects at the limits that the document names, made in few calls. */
final class Setups {
    private Setups() {
    }

    static LeadRaces empty() {
        return new LeadRaces();
    }

    /** Two runners and two states in the history, which is not full. */
    static LeadRaces few() {
        LeadRaces x = new LeadRaces();
        x.come(0, 10, 1);
        x.come(1, 0, 3);
        Expect.typeIn(x, "wait 9;");
        return x;
    }

    /** More changes than the history keeps, leaders put down, races with ends, a text. */
    static LeadRaces busy() {
        LeadRaces x = new LeadRaces();
        x.come(0, 10, 1);
        x.come(1, 0, 3);
        x.come(5, 30, -2);
        x.come(6, -40, 7);
        x.pause(7);
        x.jump(5, 9);
        x.speed(0, 2);
        x.pause(1);
        Expect.typeIn(x, "wait 3;go 5;jump 1 -1;");
        return x;
    }

    /** A runner in each lane; the text has a fault behind its first command. */
    static LeadRaces full() {
        LeadRaces x = new LeadRaces();
        for (int lane = 0; lane < 8; lane++) {
            x.come(lane, 5 - 7 * lane, 2 * lane);
        }
        Expect.typeIn(x, "go 3;go 3;wait 1;");
        return x;
    }

    /** The moment is the one given, at most 9000, with two runners. */
    static LeadRaces at(int moment) {
        LeadRaces x = new LeadRaces();
        x.come(2, 5, 0);
        x.come(4, 0, 1);
        int left = moment;
        while (left > 0) {
            int step = Math.min(left, 500);
            x.pause(step);
            left -= step;
        }
        return x;
    }

    /** The runner in the lane 3 is at the place given, 8 moments before the time limit; speed 0. */
    static LeadRaces far(int place) {
        LeadRaces x = new LeadRaces();
        boolean isNear = Math.abs(place) <= 9999;
        int sign = place < 0 ? -1 : 1;
        x.come(3, isNear ? place : sign * 9999, isNear ? 0 : sign * 99);
        for (int i = 0; i < 17; i++) {
            x.pause(500);
        }
        x.pause(492);
        x.speed(3, 0);
        int left = place - x.runnerOf(3, 0);
        while (left != 0) {
            int way = Math.max(-999, Math.min(999, left));
            x.jump(3, way);
            left -= way;
        }
        return x;
    }

    /** The text given, on the two runners of few(). */
    static LeadRaces withText(String text) {
        LeadRaces x = few();
        Expect.newText(x, text);
        return x;
    }
}
