/** Promises 18 to 21: type, clearText, fault, play. */
public final class TextsTest {
    public static void main(String[] args) {
        type();
        clearText();
        noFault();
        faultsOfForm();
        faultsOfState();
        faultOfTheFirst();
        playOf();
        playAsOneChange();
        playPutsDown();
        playRefused();
        playLong();
        Expect.finish();
    }

    private static void due(String call, int got, int want) {
        Expect.due(call, got, want);
    }

    private static void type() {
        LeadRaces x = new LeadRaces();
        due("type(31)", x.type(31), Expect.INVALID);
        due("type(127)", x.type(127), Expect.INVALID);
        due("type(-1)", x.type(-1), Expect.INVALID);
        due("type(65536 + 32)", x.type(65536 + 32), Expect.INVALID);
        for (int i = 1; i <= 60; i++) {
            due("type", x.type(i % 2 == 0 ? 32 : 126), i);
        }
        due("a 61st", x.type(65), Expect.LIMIT);
        due("out of range first", x.type(127), Expect.INVALID);
        due("length", x.count(5), 60);
        due("no change", x.count(4), 0);
    }

    private static void clearText() {
        LeadRaces x = new LeadRaces();
        due("empty", x.clearText(), 0);
        Expect.typeIn(x, "wait 1;");
        due("length it had", x.clearText(), 7);
        due("now empty", x.clearText(), 0);
        due("length", x.count(5), 0);
        due("no change", x.count(4), 0);
        due("nothing left of it", x.fault(0), Expect.NOT_FOUND);
        Expect.typeIn(x, "w");
        due("not of the old text", x.fault(0), 0);
    }

    private static void faults(String text, int position, int reason, int cause) {
        LeadRaces x = new LeadRaces();
        x.come(1, 5, 0);
        x.come(3, 0, 1);
        Expect.typeIn(x, text);
        due("'" + text + "': fault(0)", x.fault(0), position);
        due("'" + text + "': fault(1)", x.fault(1), reason);
        due("'" + text + "': fault(2)", x.fault(2), cause);
        due("'" + text + "': fault(-1)", x.fault(-1), Expect.INVALID);
        due("'" + text + "': fault(3)", x.fault(3), Expect.INVALID);
        due("'" + text + "': play()", x.play() == Expect.NOT_POSSIBLE ? 1 : 0, reason > 0 ? 1 : 0);
    }

    private static void noFault() {
        String[] texts = {"", "come 0 -9999 -99;", "come 0 9999 99;", "come 0007 0001 -001;", "go 0003;",
            "speed 1 -0;", "jump 1 -0000;", "speed 3 0099;", "jump 3 -999;", "jump 1 999;", "wait 500;",
            "wait 0001;", "go 1;come 1 0 0;go 1;come 1 0 0;", "go 1;go 3;wait 1;"};
        for (String text : texts) {
            faults(text, Expect.NOT_FOUND, Expect.NOT_FOUND, Expect.NOT_FOUND);
        }
    }

    private static void faultsOfForm() {
        String[] texts = {";", " ", "x", "g", "go", "go ", "go 1", "go;", "go ;", "go  1;", " go 1;", "go 1 ;",
            "go 1 1;", "go1;", "go 00001;", "go --1;", "go -;", "go - 1;", "go +1;", "go 1-;", "go 1,", "Go 1;",
            "GO 1;", "goo 1;", "come 0 0;", "come 0 0 0 0;", "come 0 0 0", "comes 0 0 0;", "come 0 0 12345;",
            "speed 1;", "speed 1 1 1;", "jump 1;", "jump 1 0x;", "wait;", "wait 1 1;", "pause 1;", "wait -12345;",
            "wait a;", "go 1.;", "go 10000;"};
        for (String text : texts) {
            faults(text, 0, 1, Expect.NOT_FOUND);
            faults("wait 1;" + text, 7, 1, Expect.NOT_FOUND);
        }
        faults("go 1; go 3;", 5, 1, Expect.NOT_FOUND);
        faults("go 1;;", 5, 1, Expect.NOT_FOUND);
        faults("go 1;go 3; ", 10, 1, Expect.NOT_FOUND);
        faults("go 9", 0, 1, Expect.NOT_FOUND);
    }

    private static void faultsOfState() {
        faults("come 8 0 0;", 0, 2, Expect.INVALID);
        faults("come -1 0 0;", 0, 2, Expect.INVALID);
        faults("come 0 0 100;", 0, 2, Expect.INVALID);
        faults("come 1 0 0;", 0, 2, Expect.NOT_POSSIBLE);
        faults("go 8;", 0, 2, Expect.INVALID);
        faults("go 0;", 0, 2, Expect.NOT_POSSIBLE);
        faults("go -0;", 0, 2, Expect.NOT_POSSIBLE);
        faults("speed 1 100;", 0, 2, Expect.INVALID);
        faults("speed 0 1;", 0, 2, Expect.NOT_POSSIBLE);
        faults("jump 1 1000;", 0, 2, Expect.INVALID);
        faults("jump 0 1;", 0, 2, Expect.NOT_POSSIBLE);
        faults("wait 0;", 0, 2, Expect.INVALID);
        faults("wait -1;", 0, 2, Expect.INVALID);
        faults("wait 501;", 0, 2, Expect.INVALID);
        LeadRaces x = new LeadRaces();
        for (int i = 0; i < 17; i++) {
            x.pause(500);
        }
        Expect.typeIn(x, "wait 400;wait 100;wait 1;");
        due("too late: position", x.fault(0), 18);
        due("too late: reason", x.fault(1), 2);
        due("too late: cause", x.fault(2), Expect.LIMIT);
        due("not played", x.play(), Expect.NOT_POSSIBLE);
        due("time", x.count(1), 8500);
    }

    private static void faultOfTheFirst() {
        faults("go 1;go 1;x", 5, 2, Expect.NOT_POSSIBLE);
        faults("go 1;x;go 1;", 5, 1, Expect.NOT_FOUND);
        faults("come 0 0 0;come 0 0 0;", 11, 2, Expect.NOT_POSSIBLE);
        faults("go 1;speed 1 1;", 5, 2, Expect.NOT_POSSIBLE);
        faults("speed 1 1;wait 0;go 0;", 10, 2, Expect.INVALID);
        LeadRaces x = new LeadRaces();
        Expect.typeIn(x, "go 1;");
        due("with the state", x.fault(0), 0);
        x.come(1, 0, 0);
        due("of now", x.fault(0), Expect.NOT_FOUND);
        x.undo();
        due("also back", x.fault(2), Expect.NOT_POSSIBLE);
    }

    private static void playOf() {
        LeadRaces x = new LeadRaces();
        Expect.typeIn(x, "come 0 10 1;come 1 0 3;wait 4;jump 0 -1;speed 1 5;");
        due("five commands", x.play(), 5);
        due("time", x.count(1), 4);
        due("place of 0", x.runnerOf(0, 0), 13);
        due("place of 1", x.runnerOf(1, 0), 12);
        due("speed of 1", x.runnerOf(1, 1), 5);
        due("races run", x.count(2), 12);
        due("race 0", x.raceOf(0, 2), 5);
        due("the text stays", x.count(5), 50);
        due("it can't be done twice", x.play(), Expect.NOT_POSSIBLE);
        Expect.newText(x, "go 0;go 1;");
        due("two commands", x.play(), 2);
        due("runners", x.count(0), 0);
    }

    private static void playAsOneChange() {
        LeadRaces x = new LeadRaces();
        due("no commands", x.play(), 0);
        due("are a change", x.count(4), 1);
        Expect.typeIn(x, "come 3 1 1;wait 2;go 3;");
        due("three commands", x.play(), 3);
        due("are one change", x.count(4), 2);
        due("time", x.count(1), 2);
        due("undone", x.undo(), 1);
        due("at once", x.count(1), 0);
        due("nothing run", x.count(2), 0);
        due("the text stays", x.count(5), 23);
        due("the empty one undone", x.undo(), 0);
        Expect.newText(x, "wait 1;");
        for (int i = 0; i < 6; i++) {
            due("play again", x.play(), 1);
        }
        due("time", x.count(1), 6);
        due("states", x.count(4), 4);
    }

    private static void playPutsDown() {
        LeadRaces x = new LeadRaces();
        Expect.typeIn(x, "come 2 5 0;come 3 0 2;wait 9;go 3;go 2;come 2 0 0;");
        due("six commands", x.play(), 6);
        due("put down", x.count(3), 5);
        int[][] leaders = {{2, 9}, {-1, 9}, {2, 9}, {3, 3}, {2, 0}};
        for (int i = 0; i < leaders.length; i++) {
            due("ledBy(" + i + ", 0)", x.ledBy(i, 0), leaders[i][0]);
            due("ledBy(" + i + ", 1)", x.ledBy(i, 1), leaders[i][1]);
        }
        due("anew since it came", x.runnerOf(2, 4), 0);
    }

    private static void playRefused() {
        LeadRaces x = new LeadRaces();
        Expect.typeIn(x, "come 0 0 1;wait 5;go 1;");
        due("a fault at the end", x.play(), Expect.NOT_POSSIBLE);
        due("no runner", x.count(0), 0);
        due("no time", x.count(1), 0);
        due("no state", x.count(4), 0);
        due("no race", x.count(2), 0);
        due("nothing put down", x.count(3), 0);
    }

    private static void playLong() {
        LeadRaces x = new LeadRaces();
        Expect.typeIn(x, "go 1;come 1 0 0;go 1;come 1 0 0;go 1;come 1 0 0;go 1;wait 9;");
        due("60 characters", x.count(5), 60);
        x.come(1, 0, 0);
        due("all are possible", x.fault(0), Expect.NOT_FOUND);
        due("eight", x.play(), 8);
        x.come(1, 0, 0);
        Expect.newText(x, "go 1;come 1 0 0;go 1;come 1 0 0;go 1;come 1 0 0;go 1;wait 500;");
        due("without its end", x.fault(0), 53);
        due("of form", x.fault(1), 1);
        Expect.newText(x, "go 1;come 1 0 0;go 1;come 1 0 0;go 1;come 1 0 0;go 1;wait;;");
        due("the last one", x.fault(0), 53);
        Expect.newText(x, "wait 500;wait 500;wait 500;wait 500;wait 500;wait 500;go 1;");
        due("seven", x.play(), 7);
        due("time", x.count(1), 3009);
    }
}
