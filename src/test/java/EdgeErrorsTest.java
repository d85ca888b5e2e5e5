/**
 * Boundary cases of the section ERRORS: where several errors can apply, the order of the checks; and that a call
 * that returns an error or NONE changes nothing, nor does one that only tells.
 */
public final class EdgeErrorsTest {
    private static final int UNKNOWN = FoldedProfiles.UNKNOWN;
    private static final int BAD_VALUE = FoldedProfiles.BAD_VALUE;
    private static final int FULL = FoldedProfiles.FULL;
    private static final int NOT_POSSIBLE = FoldedProfiles.NOT_POSSIBLE;
    private static final int NONE = FoldedProfiles.NONE;
    private static final String CHANGES = "A call that returns an error or NONE changes nothing";
    private static final String ORDER = "the order of the @return line is the order of the checks";

    public static void main(String[] args) {
        constants();
        buying();
        trading();
        parting();
        drawing();
        coming();
        comingAll();
        serving();
        cutting();
        turning();
        setting();
        typing();
        history();
        telling();
        tellingRefused();
        noneIsNoError();
        Due.end();
    }

    private static void type(FoldedProfiles x, String signs) {
        for (int i = 0; i < signs.length(); i++) {
            x.type(signs.charAt(i));
        }
    }

    /** 2 profiles, a strip of 42, a couple that waits, stock of both sides, 4 states, a snapshot that is another. */
    private static void some(FoldedProfiles x) {
        type(x, "12345678l99;87654321c9");
        x.comeAll();
        x.buy(60, 1);
        x.keep();
        x.cut(0, 0, 1);
        x.serve(0);
    }

    private static void fullStrips(FoldedProfiles x) {
        some(x);
        for (int strip = 0; strip < 5; strip++) {
            x.part(strip, 2 + strip);
        }
    }

    private static void fullLine(FoldedProfiles x) {
        some(x);
        x.cut(0, 0, 0);
        for (int waiting = 1; waiting < 12; waiting++) {
            x.come(0, 2, 30 + waiting);
        }
    }

    private static void fullProfiles(FoldedProfiles x) {
        some(x);
        for (int number = 2; number < 10; number++) {
            x.draw(1, 0, number);
        }
        x.clearText();
        type(x, "11111111l;11111112l");
    }

    private static void noCoins(FoldedProfiles x) {
        some(x);
        x.buy(80, 3);
        x.buy(1, 1);
    }

    private static void constants() {
        Due.sentence("Errors are reported by the constants");
        Due.due("UNKNOWN", UNKNOWN, -1);
        Due.due("BAD_VALUE", BAD_VALUE, -2);
        Due.due("FULL", FULL, -3);
        Due.due("NOT_POSSIBLE", NOT_POSSIBLE, -4);
        Due.due("NONE", NONE, -5);
        Due.due("NO_CUT", FoldedProfiles.NO_CUT, -10);
    }

    private static void buying() {
        Due.sentence(CHANGES);
        Twins.unchanged("buy(0, 1)", x -> some(x), x -> x.buy(0, 1), BAD_VALUE);
        Twins.unchanged("buy(201, 1)", x -> some(x), x -> x.buy(201, 1), BAD_VALUE);
        Twins.unchanged("buy(1, 0)", x -> some(x), x -> x.buy(1, 0), BAD_VALUE);
        Twins.unchanged("buy(1, 4)", x -> some(x), x -> x.buy(1, 4), BAD_VALUE);
        Twins.unchanged("buy(1, 1) of 6", x -> fullStrips(x), x -> x.buy(1, 1), FULL);
        Twins.unchanged("buy(160, 3)", x -> some(x), x -> x.buy(160, 3), NOT_POSSIBLE);
        Twins.unchanged("buy(1, 1) for nothing", x -> noCoins(x), x -> x.buy(1, 1), NOT_POSSIBLE);
        Due.sentence(ORDER);
        Twins.unchanged("buy(0, 1) of 6", x -> fullStrips(x), x -> x.buy(0, 1), BAD_VALUE);
        Twins.unchanged("buy(1, 4) of 6", x -> fullStrips(x), x -> x.buy(1, 4), BAD_VALUE);
        Twins.unchanged("buy(201, 1) for nothing", x -> noCoins(x), x -> x.buy(201, 1), BAD_VALUE);
        Twins.unchanged("buy(200, 3) of 6", x -> fullStrips(x), x -> x.buy(200, 3), FULL);
    }

    private static void trading() {
        Due.sentence(CHANGES);
        Twins.unchanged("trade(1, 2)", x -> some(x), x -> x.trade(1, 2), UNKNOWN);
        Twins.unchanged("trade(-1, 2)", x -> some(x), x -> x.trade(-1, 2), UNKNOWN);
        Twins.unchanged("trade(0, 0)", x -> some(x), x -> x.trade(0, 0), BAD_VALUE);
        Twins.unchanged("trade(0, 4)", x -> some(x), x -> x.trade(0, 4), BAD_VALUE);
        Twins.unchanged("trade(0, 1)", x -> some(x), x -> x.trade(0, 1), NOT_POSSIBLE);
        Twins.unchanged("trade of 6", x -> fullStrips(x), x -> x.trade(4, 2), NOT_POSSIBLE);
        Due.sentence(ORDER);
        Twins.unchanged("trade(1, 4)", x -> some(x), x -> x.trade(1, 4), UNKNOWN);
        Twins.unchanged("trade(6, 0)", x -> fullStrips(x), x -> x.trade(6, 0), UNKNOWN);
        Twins.unchanged("trade(0, 0) of 2", x -> fullStrips(x), x -> x.trade(0, 0), BAD_VALUE);
        Twins.unchanged("trade(0, 4) of 2", x -> fullStrips(x), x -> x.trade(0, 4), BAD_VALUE);
    }

    private static void parting() {
        Due.sentence(CHANGES);
        Twins.unchanged("part(1, 1)", x -> some(x), x -> x.part(1, 1), UNKNOWN);
        Twins.unchanged("part(-1, 1)", x -> some(x), x -> x.part(-1, 1), UNKNOWN);
        Twins.unchanged("part(0, 0)", x -> some(x), x -> x.part(0, 0), BAD_VALUE);
        Twins.unchanged("part(0, 200)", x -> some(x), x -> x.part(0, 200), BAD_VALUE);
        Twins.unchanged("part(5, 1)", x -> fullStrips(x), x -> x.part(5, 1), FULL);
        Twins.unchanged("part(0, 42)", x -> some(x), x -> x.part(0, 42), NOT_POSSIBLE);
        Twins.unchanged("part(0, 199)", x -> some(x), x -> x.part(0, 199), NOT_POSSIBLE);
        Due.sentence(ORDER);
        Twins.unchanged("part(1, 0)", x -> some(x), x -> x.part(1, 0), UNKNOWN);
        Twins.unchanged("part(6, 1)", x -> fullStrips(x), x -> x.part(6, 1), UNKNOWN);
        Twins.unchanged("part(6, 200)", x -> fullStrips(x), x -> x.part(6, 200), UNKNOWN);
        Twins.unchanged("part(0, 0) of 6", x -> fullStrips(x), x -> x.part(0, 0), BAD_VALUE);
        Twins.unchanged("part(0, 200) of 6", x -> fullStrips(x), x -> x.part(0, 200), BAD_VALUE);
        Twins.unchanged("part(0, 2) of 6", x -> fullStrips(x), x -> x.part(0, 2), FULL);
        Twins.unchanged("part(0, 199) of 6", x -> fullStrips(x), x -> x.part(0, 199), FULL);
    }

    private static void drawing() {
        Due.sentence(CHANGES);
        Twins.unchanged("draw(2, 0, 1)", x -> some(x), x -> x.draw(2, 0, 1), UNKNOWN);
        Twins.unchanged("draw(0, 8, 1)", x -> some(x), x -> x.draw(0, 8, 1), UNKNOWN);
        Twins.unchanged("draw(0, -1, 1)", x -> some(x), x -> x.draw(0, -1, 1), UNKNOWN);
        Twins.unchanged("draw(0, 0, 0)", x -> some(x), x -> x.draw(0, 0, 0), BAD_VALUE);
        Twins.unchanged("draw(0, 0, 10)", x -> some(x), x -> x.draw(0, 0, 10), BAD_VALUE);
        Twins.unchanged("draw of 10", x -> fullProfiles(x), x -> x.draw(9, 7, 9), FULL);
        Due.sentence(ORDER);
        Twins.unchanged("draw(2, 0, 0)", x -> some(x), x -> x.draw(2, 0, 0), UNKNOWN);
        Twins.unchanged("draw(0, 8, 10)", x -> some(x), x -> x.draw(0, 8, 10), UNKNOWN);
        Twins.unchanged("draw(10, 0, 1)", x -> fullProfiles(x), x -> x.draw(10, 0, 1), UNKNOWN);
        Twins.unchanged("draw(9, 8, 1)", x -> fullProfiles(x), x -> x.draw(9, 8, 1), UNKNOWN);
        Twins.unchanged("draw(9, 0, 0)", x -> fullProfiles(x), x -> x.draw(9, 0, 0), BAD_VALUE);
    }

    private static void coming() {
        Due.sentence(CHANGES);
        Twins.unchanged("come(2, 0, 1)", x -> some(x), x -> x.come(2, 0, 1), UNKNOWN);
        Twins.unchanged("come(-1, 0, 1)", x -> some(x), x -> x.come(-1, 0, 1), UNKNOWN);
        Twins.unchanged("come(0, 3, 1)", x -> some(x), x -> x.come(0, 3, 1), BAD_VALUE);
        Twins.unchanged("come(0, -1, 1)", x -> some(x), x -> x.come(0, -1, 1), BAD_VALUE);
        Twins.unchanged("come(0, 0, 0)", x -> some(x), x -> x.come(0, 0, 0), BAD_VALUE);
        Twins.unchanged("come(0, 0, 100)", x -> some(x), x -> x.come(0, 0, 100), BAD_VALUE);
        Twins.unchanged("a thirteenth", x -> fullLine(x), x -> x.come(0, 0, 1), FULL);
        Due.sentence(ORDER);
        Twins.unchanged("come(2, 3, 1)", x -> some(x), x -> x.come(2, 3, 1), UNKNOWN);
        Twins.unchanged("come(2, 0, 0)", x -> some(x), x -> x.come(2, 0, 0), UNKNOWN);
        Twins.unchanged("unknown, of 12", x -> fullLine(x), x -> x.come(2, 0, 1), UNKNOWN);
        Twins.unchanged("a bad want, of 12", x -> fullLine(x), x -> x.come(0, 3, 1), BAD_VALUE);
        Twins.unchanged("a bad patience, of 12", x -> fullLine(x), x -> x.come(0, 0, 100), BAD_VALUE);
    }

    private static void comingAll() {
        Due.sentence(CHANGES);
        Twins.unchanged("the empty text", x -> {
            some(x);
            x.clearText();
        }, x -> x.comeAll(), -100);
        Twins.unchanged("a fault of the second", x -> {
            some(x);
            x.clearText();
            type(x, "11111111l;2222222");
        }, x -> x.comeAll(), -117);
        Twins.unchanged("no room in the line", x -> fullLine(x), x -> x.comeAll(), FULL);
        Twins.unchanged("room for one in the line", x -> {
            fullLine(x);
            x.serve(1);
            x.clearText();
            type(x, "11111111l;22222222l");
        }, x -> x.comeAll(), FULL);
        Twins.unchanged("no room for profiles", x -> fullProfiles(x), x -> x.comeAll(), FULL);
        Twins.unchanged("room for one profile", x -> {
            fullProfiles(x);
            x.undo();
        }, x -> x.comeAll(), FULL);
        Due.sentence(ORDER);
        Twins.unchanged("a fault, and no room in the line", x -> {
            fullLine(x);
            x.type(';');
        }, x -> x.comeAll(), -100 - 23);
        Twins.unchanged("a fault, and no room for profiles", x -> {
            fullProfiles(x);
            x.type(';');
        }, x -> x.comeAll(), -100 - 20);
    }

    private static void serving() {
        Due.sentence(CHANGES);
        Twins.unchanged("serve(1)", x -> some(x), x -> x.serve(1), UNKNOWN);
        Twins.unchanged("serve(-1)", x -> some(x), x -> x.serve(-1), UNKNOWN);
        Twins.unchanged("serve(0)", x -> some(x), x -> x.serve(0), NOT_POSSIBLE);
        Twins.unchanged("serve(12)", x -> fullLine(x), x -> x.serve(12), UNKNOWN);
        Twins.unchanged("serve(0) of nobody", x -> x.keep(), x -> x.serve(0), UNKNOWN);
        Twins.unchanged("serveAll", x -> some(x), x -> x.serveAll(), NONE);
        Twins.unchanged("serveAll of nobody", x -> x.keep(), x -> x.serveAll(), NONE);
    }

    private static void cutting() {
        Due.sentence(CHANGES);
        Twins.unchanged("cut(2, 0, 0)", x -> some(x), x -> x.cut(2, 0, 0), UNKNOWN);
        Twins.unchanged("cut(0, 1, 0)", x -> some(x), x -> x.cut(0, 1, 0), UNKNOWN);
        Twins.unchanged("cut(-1, 0, 0)", x -> some(x), x -> x.cut(-1, 0, 0), UNKNOWN);
        Twins.unchanged("cut(0, -1, 0)", x -> some(x), x -> x.cut(0, -1, 0), UNKNOWN);
        Twins.unchanged("cut(0, 0, 4)", x -> some(x), x -> x.cut(0, 0, 4), BAD_VALUE);
        Twins.unchanged("cut(0, 0, -1)", x -> some(x), x -> x.cut(0, 0, -1), BAD_VALUE);
        Twins.unchanged("too thick", x -> {
            some(x);
            x.set(2, 3);
        }, x -> x.cut(0, 0, 2), -11);
        Twins.unchanged("too short", x -> some(x), x -> x.cut(0, 0, 3), -12);
        Due.sentence(ORDER);
        Twins.unchanged("cut(2, 0, 4)", x -> some(x), x -> x.cut(2, 0, 4), UNKNOWN);
        Twins.unchanged("cut(0, 1, 4)", x -> some(x), x -> x.cut(0, 1, 4), UNKNOWN);
        Twins.unchanged("cut(2, 0, 3)", x -> some(x), x -> x.cut(2, 0, 3), UNKNOWN);
        Twins.unchanged("too thick and too short", x -> {
            some(x);
            x.set(2, 7);
        }, x -> x.cut(0, 0, 3), -11);
        Twins.unchanged("a strip that is thin enough, too short by 1", x -> {
            some(x);
            x.part(0, 8);
        }, x -> x.cut(0, 0, 0), -12);
    }

    private static void turning() {
        Due.sentence(CHANGES);
        Twins.unchanged("turn(2, true)", x -> some(x), x -> x.turn(2, true), UNKNOWN);
        Twins.unchanged("turn(-1, false)", x -> some(x), x -> x.turn(-1, false), UNKNOWN);
        Twins.unchanged("no left one", x -> some(x), x -> x.turn(0, true), NOT_POSSIBLE);
        Twins.unchanged("no right one", x -> {
            some(x);
            x.turn(0, false);
        }, x -> x.turn(0, false), NOT_POSSIBLE);
        Twins.unchanged("none of 1", x -> some(x), x -> x.turn(1, true), NOT_POSSIBLE);
    }

    private static void setting() {
        Due.sentence(CHANGES);
        Twins.unchanged("set(3, 1)", x -> some(x), x -> x.set(3, 1), UNKNOWN);
        Twins.unchanged("set(-1, 1)", x -> some(x), x -> x.set(-1, 1), UNKNOWN);
        int[][] outside = {{0, -1}, {0, 10}, {1, -1}, {1, 4}, {2, 0}, {2, 25}};
        for (int[] row : outside) {
            Twins.unchanged("set(" + row[0] + ", " + row[1] + ")", x -> some(x), x -> x.set(row[0], row[1]), BAD_VALUE);
        }
        int[] atFirst = {1, 0, 8};
        for (int which = 0; which < 3; which++) {
            int same = which;
            Twins.unchanged("set " + which, x -> some(x), x -> x.set(same, atFirst[same]), NONE);
        }
        Due.sentence(ORDER);
        Twins.unchanged("set(3, 99)", x -> some(x), x -> x.set(3, 99), UNKNOWN);
        Twins.unchanged("set(-1, -1)", x -> some(x), x -> x.set(-1, -1), UNKNOWN);
    }

    private static void typing() {
        Due.sentence(CHANGES);
        Twins.unchanged("an 81st character", x -> {
            some(x);
            type(x, ";11111111l;11111111r;11111111c;11111111l;11111111r;1111111");
        }, x -> x.type('1'), FULL);
        Twins.unchanged("an 81st character of a text without a fault", x -> {
            some(x);
            x.clearText();
            type(x, "11111111l;11111111r;11111111l;11111111r;11111111l;11111111r;11111111l;11111111r7");
        }, x -> x.type('7'), FULL);
    }

    private static void history() {
        Due.sentence(CHANGES);
        Twins.unchanged("undo", x -> {
            some(x);
            while (x.count(14) > 0) {
                x.undo();
            }
        }, x -> x.undo(), NONE);
        Twins.unchanged("restore", x -> x.buy(1, 1), x -> x.restore(), NONE);
        Twins.unchanged("restore of a new stall", x -> x.count(0), x -> x.restore(), NONE);
    }

    private static void telling() {
        Due.sentence("what is told changes nothing");
        Twins.unchanged("all that is told", x -> some(x), x -> {
            int sum = 0;
            for (int n = 0; n < 4; n++) {
                for (int what = 0; what <= 4; what++) {
                    sum += x.ifCut(0, 0, n, what) + x.ifCut(1, 0, n, what) + x.sitter(0, what);
                }
                sum += x.bestStrip(0, n) + x.strip(0, n) + x.layerWidth(0, n, n) + x.width(1, n);
            }
            for (int what = 0; what <= 15; what++) {
                sum += x.profile(0, what) + x.count(what);
            }
            sum += x.fewestFolds(0, 0) + x.fewestFolds(1, 0);
            return sum == 0 ? 0 : 1;
        }, 1);
    }

    private static void tellingRefused() {
        Due.sentence(ORDER);
        FoldedProfiles x = new FoldedProfiles();
        some(x);
        Due.due("width(2, 8)", x.width(2, 8), UNKNOWN);
        Due.due("profile(2, 7)", x.profile(2, 7), UNKNOWN);
        Due.due("layerWidth(2, 0, 8)", x.layerWidth(2, 0, 8), UNKNOWN);
        Due.due("layerWidth(0, 8, 8)", x.layerWidth(0, 8, 8), UNKNOWN);
        Due.due("strip(1, 3)", x.strip(1, 3), UNKNOWN);
        Due.due("sitter(1, 4)", x.sitter(1, 4), UNKNOWN);
        Due.due("ifCut(2, 0, 4, 5)", x.ifCut(2, 0, 4, 5), UNKNOWN);
        Due.due("ifCut(0, 1, 4, 5)", x.ifCut(0, 1, 4, 5), UNKNOWN);
        Due.due("ifCut(0, 0, 3, 5), too short", x.ifCut(0, 0, 3, 5), BAD_VALUE);
        Due.due("ifCut(0, 0, 3, -1), too short", x.ifCut(0, 0, 3, -1), BAD_VALUE);
        Due.due("ifCut(0, 0, 4, 0)", x.ifCut(0, 0, 4, 0), BAD_VALUE);
        Due.due("bestStrip(2, 4)", x.bestStrip(2, 4), UNKNOWN);
        Due.due("fewestFolds(2, 1)", x.fewestFolds(2, 1), UNKNOWN);
        for (int what = 0; what <= 4; what++) {
            Due.due("ifCut(0, 0, 3, " + what + ")", x.ifCut(0, 0, 3, what), -12);
        }
        x.set(2, 7);
        for (int what = 0; what <= 4; what++) {
            Due.due("too thick, ifCut(0, 0, 3, " + what + ")", x.ifCut(0, 0, 3, what), -11);
        }
    }

    private static void noneIsNoError() {
        Due.sentence("NONE is no error; it is returned only if no error applies");
        FoldedProfiles x = Due.stallWith("11111111l");
        Due.due("no strips, and a bad value", x.bestStrip(0, 4), BAD_VALUE);
        Due.due("no strips, and unknown", x.bestStrip(1, 0), UNKNOWN);
        Due.due("no strips", x.bestStrip(0, 0), NONE);
        x.buy(1, 1);
        Due.due("no folds, and unknown", x.fewestFolds(1, 0), UNKNOWN);
        Due.due("no folds, and unknown", x.fewestFolds(0, 1), UNKNOWN);
        Due.due("no folds", x.fewestFolds(0, 0), NONE);
        x.buy(1, 2);
        x.set(2, 1);
        Due.due("not through one layer, and a bad value", x.strip(1, 3), BAD_VALUE);
        Due.due("not through one layer", x.strip(1, 2), NONE);
    }
}
