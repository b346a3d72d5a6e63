/** Compares answers with those that are due, and ends a test. */
final class Expect {
    static final int INVALID = -10000001;
    static final int NOT_POSSIBLE = -10000002;
    static final int LIMIT = -10000003;
    static final int NOT_FOUND = -10000004;

    private static int compared = 0;
    private static int wrong = 0;

    private Expect() {
    }

    static void due(String call, long got, long want) {
        compared++;
        if (got != want) {
            wrong++;
            if (wrong <= 50) {
                System.out.println(call + " answered " + got + ", due is " + want);
            }
        }
    }

    static void typeIn(LeadRaces races, String text) {
        for (int i = 0; i < text.length(); i++) {
            races.type(text.charAt(i));
        }
    }

    static void newText(LeadRaces races, String text) {
        races.clearText();
        typeIn(races, text);
    }

    static void finish() {
        System.out.println(compared + " answers, " + wrong + " not as due");
        if (wrong != 0) {
            System.exit(1);
        }
    }
}
