/** Compares answers with those that are due, and ends a test with exit code 1 if one differs. */
final class Due {
    private static int compared = 0;
    private static int wrong = 0;

    private Due() {
    }

    static void due(String call, long got, long want) {
        compared++;
        if (got != want) {
            wrong++;
            System.out.println(call + " answered " + got + ", due is " + want);
        }
    }

    /** Types a whole text in place of the one that was. */
    static void text(FoldedProfiles stall, String signs) {
        stall.clearText();
        for (int i = 0; i < signs.length(); i++) {
            due("type at " + i + " of " + signs, stall.type(signs.charAt(i)), i + 1);
        }
    }

    /** A new stall, to which the sitters of a text have come. */
    static FoldedProfiles stallWith(String signs) {
        FoldedProfiles stall = new FoldedProfiles();
        text(stall, signs);
        int entries = signs.split(";", -1).length;
        due("comeAll of " + signs, stall.comeAll(), entries);
        return stall;
    }

    static void end() {
        System.out.println(compared + " answers compared, " + wrong + " not as due");
        if (wrong != 0) {
            System.exit(1);
        }
    }
}
