import java.util.List;

/** Compares answers with those that are due, and ends a test with exit code 1 if one differs. */
final class Due {
    private static int compared = 0;
    private static int wrong = 0;
    private static String sentence = "";

    private Due() {
    }

    /** The sentence of the document that the next comparisons are about; a difference is told with it. */
    static void sentence(String words) {
        sentence = "[" + words + "] ";
    }

    static void due(String call, long got, long want) {
        compared++;
        if (got != want) {
            wrong++;
            System.out.println(sentence + call + " answered " + got + ", due is " + want);
        }
    }

    /** Compares two lists of answers; the first difference is told. */
    static void same(String what, List<String> got, List<String> want) {
        compared++;
        if (got.equals(want)) {
            return;
        }
        wrong++;
        int at = 0;
        while (at < got.size() && at < want.size() && got.get(at).equals(want.get(at))) {
            at++;
        }
        String first = at < got.size() ? got.get(at) : "nothing more";
        String other = at < want.size() ? want.get(at) : "nothing more";
        System.out.println(sentence + what + ": " + first + ", due is " + other);
    }

    /** Types a whole text in place of the one that was. */
    static void text(FoldedProfiles stall, String signs) {
        stall.clearText();
        for (int i = 0; i < signs.length(); i++) {
            due("type at " + i + " of " + signs, stall.type(signs.charAt(i)), i + 1);
        }
    }

    /** A new stall, to which the sitters of a text have come. */
    static FoldedProfiles stallWith(String signs) {
        FoldedProfiles stall = new FoldedProfiles();
        text(stall, signs);
        int entries = signs.split(";", -1).length;
        due("comeAll of " + signs, stall.comeAll(), entries);
        return stall;
    }

    static void end() {
        System.out.println(compared + " answers compared, " + wrong + " not as due");
        if (wrong != 0) {
            System.exit(1);
        }
    }
}
