/** Long runs of calls on the program and on the model, which have to answer the same. */
public final class ModelTest {
    private static final String[] VERBS = {"come", "go", "speed", "jump", "wait"};
    private static final int[] EDGES = {Integer.MIN_VALUE, -10000, -9999, -1000, -999, -100, -99, -1, 0,
        7, 8, 60, 99, 100, 500, 501, 999, 1000, 9999, 10000, 20001, Integer.MAX_VALUE};

    private long seed;
    private LeadRaces races;
    private Model model;
    private String run;
    private int calls;
    private int places;
    private int speeds;
    private int moments;
    private boolean looksFar;

    public static void main(String[] args) {
        ModelTest test = new ModelTest();
        for (int i = 0; i < 400; i++) {
            test.runOf(i);
        }
        Expect.finish();
    }

    private int below(int bound) {
        seed = seed * 6364136223846793005L + 1442695040888963407L;
        return (int) ((seed >>> 33) % bound);
    }

    private int about(int most) {
        return below(2 * most + 1) - most;
    }

    private void runOf(int number) {
        seed = number * 7919L + 17;
        run = "run " + number + ", ";
        races = new LeadRaces();
        model = new Model();
        calls = 0;
        int kind = number % 4;
        places = kind == 0 ? 3 : kind == 1 ? 40 : kind == 2 ? 400 : 9999;
        speeds = kind == 0 ? 1 : kind == 1 ? 4 : 99;
        moments = kind == 0 ? 3 : kind == 1 ? 12 : kind == 2 ? 40 : 500;
        looksFar = kind < 3;
        while (calls < 400) {
            step();
        }
        lookAtAll();
    }

    private void step() {
        int choice = below(20);
        if (choice < 11) {
            change();
        } else if (choice == 11) {
            due("undo()", races.undo(), model.undo());
        } else if (choice < 14) {
            text();
        } else if (choice == 14) {
            wrongCall();
        } else {
            look();
        }
    }

    private void due(String call, int got, int want) {
        calls++;
        Expect.due(run + calls + ": " + call, got, want);
    }

    private void change() {
        int verb = below(10);
        verb = verb < 4 ? 0 : verb < 5 ? 1 : verb < 6 ? 2 : verb < 8 ? 3 : 4;
        int lane = below(8);
        if (verb == 0) {
            call(verb, lane, about(places), about(speeds));
        } else if (verb == 1) {
            call(verb, lane, 0, 0);
        } else if (verb == 2) {
            call(verb, lane, about(speeds), 0);
        } else if (verb == 3) {
            call(verb, lane, about(Math.min(places, 999)), 0);
        } else {
            call(verb, 1 + below(moments), 0, 0);
        }
    }

    private void wrongCall() {
        int a = EDGES[below(EDGES.length)];
        int b = EDGES[below(EDGES.length)];
        int c = EDGES[below(EDGES.length)];
        call(below(5), below(2) == 0 ? below(8) : a, b, c);
        due("type(" + a + ")", races.type(a), model.type(a));
        due("leadsAt(" + b + ")", races.leadsAt(b), model.leadsAt(b));
        due("ledBy(" + a + ", " + c + ")", races.ledBy(a, c), model.ledBy(a, c));
        due("runnerOf(" + b + ", " + c + ")", races.runnerOf(b, c), model.runnerOf(b, c));
        due("raceOf(" + c + ", " + a + ")", races.raceOf(c, a), model.raceOf(c, a));
        due("count(" + a + ")", races.count(a), model.count(a));
        due("fault(" + c + ")", races.fault(c), model.fault(c));
        if (looksFar) {
            due("row(" + a + ", " + b + ")", races.row(a, b), model.row(a, b));
        }
    }

    private void call(int verb, int a, int b, int c) {
        int want = model.act(VERBS[verb], a, b, c);
        String told = VERBS[verb] + " " + a + " " + b + " " + c;
        switch (verb) {
            case 0:
                due(told, races.come(a, b, c), want);
                break;
            case 1:
                due(told, races.go(a), want);
                break;
            case 2:
                due(told, races.speed(a, b), want);
                break;
            case 3:
                due(told, races.jump(a, b), want);
                break;
            default:
                due(told, races.pause(a), want);
                break;
        }
    }

    private void text() {
        if (below(2) == 0) {
            due("clearText()", races.clearText(), model.clearText());
        }
        StringBuilder text = new StringBuilder();
        int commands = 1 + below(3);
        for (int i = 0; i < commands; i++) {
            addCommand(text);
        }
        if (below(3) == 0) {
            spoil(text);
        }
        for (int i = 0; i < text.length(); i++) {
            due("type(" + text.charAt(i) + ")", races.type(text.charAt(i)), model.type(text.charAt(i)));
        }
        for (int what = 0; what < 3; what++) {
            due("fault(" + what + ")", races.fault(what), model.fault(what));
        }
        due("play()", races.play(), model.play());
    }

    private void addCommand(StringBuilder text) {
        int lane = below(40) == 0 ? 8 : below(8);
        switch (below(5)) {
            case 0:
                text.append("come ").append(lane).append(' ').append(about(places)).append(' ')
                        .append(about(speeds));
                break;
            case 1:
                text.append("go ").append(lane);
                break;
            case 2:
                text.append("speed ").append(lane).append(' ').append(about(speeds));
                break;
            case 3:
                text.append("jump ").append(lane).append(' ').append(about(Math.min(places, 999)));
                break;
            default:
                text.append("wait ").append(below(moments + 1));
                break;
        }
        text.append(';');
    }

    private void spoil(StringBuilder text) {
        int at = below(text.length());
        int how = below(3);
        if (how == 0) {
            text.deleteCharAt(at);
        } else if (how == 1) {
            text.insert(at, "0-; 9cg".charAt(below(7)));
        } else {
            text.setCharAt(at, (char) (32 + below(95)));
        }
    }

    private void look() {
        int a = below(9);
        int what = below(6);
        switch (below(11)) {
            case 0:
                due("runnerOf(" + a + ", " + what + ")", races.runnerOf(a, what), model.runnerOf(a, what));
                break;
            case 1:
            case 2:
                due("raceOf(" + a + ", " + what + ")", races.raceOf(a, what), model.raceOf(a, what));
                break;
            case 3:
                due("leader()", races.leader(), model.leader());
                break;
            case 4:
                due("ledBy(" + a + ", " + what % 3 + ")", races.ledBy(a, what % 3), model.ledBy(a, what % 3));
                break;
            case 5:
                due("count(" + a + ")", races.count(a), model.count(a));
                break;
            case 6:
                int moment = model.count(1) + below(500);
                due("leadsAt(" + moment + ")", races.leadsAt(moment), model.leadsAt(moment));
                break;
            case 7:
                due("meanBits()", races.meanBits(), model.meanBits());
                break;
            default:
                lookFar(below(5), below(2));
                break;
        }
    }

    private void lookFar(int index, int what) {
        if (!looksFar && below(10) != 0) {
            return;
        }
        due("nextRun()", races.nextRun(), model.nextRun());
        due("settledAt()", races.settledAt(), model.settledAt());
        due("row(" + index + ", " + what + ")", races.row(index, what), model.row(index, what));
    }

    private void lookAtAll() {
        for (int lane = 0; lane < 8; lane++) {
            due("runnerOf(" + lane + ", 4)", races.runnerOf(lane, 4), model.runnerOf(lane, 4));
            due("ledBy(" + lane + ", 1)", races.ledBy(lane, 1), model.ledBy(lane, 1));
        }
        for (int race = 0; race < 7; race++) {
            for (int what = 2; what < 5; what++) {
                due("raceOf(" + race + ", " + what + ")", races.raceOf(race, what), model.raceOf(race, what));
            }
            due("count(" + race + ")", races.count(race), model.count(race));
        }
    }
}
