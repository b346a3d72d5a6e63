/** Compares an object that got a call with a twin that did not: the call has to change nothing. */
final class Same {
    static final int STATES = 4;

    /** Makes an object, each time in the same way. */
    interface Setup {
        LeadRaces make();
    }

    interface Call {
        int on(LeadRaces races);
    }

    private Same() {
    }

    /**
     * The call has this answer and changes nothing: not what can be asked, not what the text does,
     * and no state of the history. There is a new pair for each state, so that no object gets more
     * calls than the document promises anything for.
     */
    static void leaves(String told, Setup setup, Call call, int answer) {
        for (int undone = 0; undone <= STATES; undone++) {
            String where = told + ", then " + undone + " undo: ";
            LeadRaces asked = setup.make();
            LeadRaces twin = setup.make();
            Expect.due(told, call.on(asked), answer);
            for (int i = 0; i < undone; i++) {
                Expect.due(where + "undo", asked.undo(), twin.undo());
            }
            compare(where, look(asked), look(twin));
            Expect.due(where + "play", asked.play(), twin.play());
            compare(where + "played, ", look(asked), look(twin));
        }
    }

    static void compare(String told, int[] got, int[] want) {
        Expect.due(told + "answers", got.length, want.length);
        for (int i = 0; i < got.length && i < want.length; i++) {
            Expect.due(told + "answer " + i, got[i], want[i]);
        }
    }

    /** What all calls that look answer, but those of the text's length and the history's. */
    static int[] lookAtTrack(LeadRaces x) {
        int[] answers = new int[122];
        int n = 0;
        for (int what = 0; what < 5; what++) {
            for (int lane = 0; lane < 8; lane++) {
                answers[n++] = x.runnerOf(lane, what);
            }
            for (int race = 0; race < 7; race++) {
                answers[n++] = x.raceOf(race, what);
            }
        }
        for (int index = 0; index < 9; index++) {
            for (int what = 0; what < 2; what++) {
                answers[n++] = x.ledBy(index, what);
                answers[n++] = x.row(index, what);
            }
        }
        int[] counts = {0, 1, 2, 3, 6};
        for (int what : counts) {
            answers[n++] = x.count(what);
        }
        answers[n++] = x.leader();
        answers[n++] = x.leadsAt(9000);
        answers[n++] = x.leadsAt(20000);
        answers[n++] = x.settledAt();
        answers[n++] = x.nextRun();
        answers[n] = x.meanBits();
        return answers;
    }

    /** What all calls that look answer. */
    static int[] look(LeadRaces x) {
        int[] track = lookAtTrack(x);
        int[] answers = java.util.Arrays.copyOf(track, track.length + 5);
        int n = track.length;
        answers[n++] = x.count(4);
        answers[n++] = x.count(5);
        for (int what = 0; what < 3; what++) {
            answers[n++] = x.fault(what);
        }
        return answers;
    }
}
