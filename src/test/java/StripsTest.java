/** Promises 1 (a new object), 2 (buy), 3 (trade), 4 (part), 21 (strip). */
public final class StripsTest {
    public static void main(String[] args) {
        newObject();
        buy();
        buyChecksInOrder();
        trade();
        part();
        strip();
        Due.end();
    }

    private static void newObject() {
        FoldedProfiles x = new FoldedProfiles();
        int[] first = {0, 0, 0, 0, 0, 0, 0, 0, 0, 10, 1, 0, 8, 0, 0, 0};
        for (int what = 0; what < first.length; what++) {
            Due.due("new count(" + what + ")", x.count(what), first[what]);
        }
        Due.due("new undo", x.undo(), FoldedProfiles.NONE);
        Due.due("new restore", x.restore(), FoldedProfiles.NONE);
        Due.due("new comeAll", x.comeAll(), -100);
        Due.due("new strip", x.strip(0, 0), FoldedProfiles.UNKNOWN);
        Due.due("new profile", x.profile(0, 0), FoldedProfiles.UNKNOWN);
        Due.due("new sitter", x.sitter(0, 0), FoldedProfiles.UNKNOWN);
        Due.due("new serveAll", x.serveAll(), FoldedProfiles.NONE);
    }

    private static void buy() {
        FoldedProfiles x = new FoldedProfiles();
        Due.due("buy(19, 1)", x.buy(19, 1), 0);
        Due.due("19 by 1 costs 1", x.count(9), 9);
        Due.due("buy(20, 1)", x.buy(20, 1), 1);
        Due.due("20 by 1 costs 2", x.count(9), 7);
        Due.due("buy(1, 3)", x.buy(1, 3), 2);
        Due.due("1 by 3 costs 3", x.count(9), 4);
        Due.due("length 2", x.strip(2, 0), 1);
        Due.due("thickness 2", x.strip(2, 1), 3);
        Due.due("buy(60, 2) for 5 of 4 coins", x.buy(60, 2), FoldedProfiles.NOT_POSSIBLE);
        Due.due("nothing changed", x.count(2) * 100 + x.count(9) * 10 + x.count(14), 343);
        Due.due("buy(40, 2) for all coins", x.buy(40, 2), 3);
        Due.due("no coins", x.count(9), 0);
        Due.due("buy(1, 1) for 1 of 0 coins", x.buy(1, 1), FoldedProfiles.NOT_POSSIBLE);
        Due.due("no time", x.count(0), 0);
        FoldedProfiles y = new FoldedProfiles();
        Due.due("buy(180, 1) costs 10", y.buy(180, 1), 0);
        Due.due("no coins", y.count(9), 0);
    }

    private static void buyChecksInOrder() {
        FoldedProfiles x = new FoldedProfiles();
        int[] badLengths = {0, 201, -1, Integer.MIN_VALUE, Integer.MAX_VALUE};
        for (int length : badLengths) {
            Due.due("buy(" + length + ", 1)", x.buy(length, 1), FoldedProfiles.BAD_VALUE);
        }
        int[] badThicknesses = {0, 4, -1, Integer.MIN_VALUE, Integer.MAX_VALUE};
        for (int thickness : badThicknesses) {
            Due.due("buy(1, " + thickness + ")", x.buy(1, thickness), FoldedProfiles.BAD_VALUE);
        }
        Due.due("buy(200, 1) for 11 of 10 coins", x.buy(200, 1), FoldedProfiles.NOT_POSSIBLE);
        Due.due("none recorded", x.count(14), 0);
        for (int strip = 0; strip < 6; strip++) {
            Due.due("buy(1, 1) " + strip, x.buy(1, 1), strip);
        }
        Due.due("a seventh", x.buy(1, 1), FoldedProfiles.FULL);
        Due.due("FULL before the coins", x.buy(200, 3), FoldedProfiles.FULL);
        Due.due("BAD_VALUE before FULL", x.buy(0, 1), FoldedProfiles.BAD_VALUE);
        Due.due("still 6", x.count(2), 6);
        Due.due("coins", x.count(9), 4);
    }

    private static void trade() {
        FoldedProfiles x = new FoldedProfiles();
        x.buy(10, 1);
        x.buy(9, 1);
        Due.due("trade(2, 0)", x.trade(2, 0), FoldedProfiles.UNKNOWN);
        Due.due("trade(-1, 2)", x.trade(-1, 2), FoldedProfiles.UNKNOWN);
        Due.due("trade(0, 0)", x.trade(0, 0), FoldedProfiles.BAD_VALUE);
        Due.due("trade(0, 4)", x.trade(0, 4), FoldedProfiles.BAD_VALUE);
        Due.due("trade(1, 4) that is short too", x.trade(1, 4), FoldedProfiles.BAD_VALUE);
        Due.due("9 is too short", x.trade(1, 2), FoldedProfiles.NOT_POSSIBLE);
        Due.due("the same thickness", x.trade(0, 1), FoldedProfiles.NOT_POSSIBLE);
        Due.due("only buy was recorded", x.count(14), 2);
        Due.due("trade(0, 3)", x.trade(0, 3), 8);
        Due.due("length", x.strip(0, 0), 8);
        Due.due("thickness", x.strip(0, 1), 3);
        Due.due("the other", x.strip(1, 0) * 10 + x.strip(1, 1), 91);
        Due.due("recorded", x.count(14), 3);
        Due.due("no coins paid", x.count(9), 8);
        Due.due("no time", x.count(0), 0);
        Due.due("8 is too short", x.trade(0, 2), FoldedProfiles.NOT_POSSIBLE);
        Due.due("not length that was cut", x.count(13), 0);
    }

    private static void part() {
        FoldedProfiles x = new FoldedProfiles();
        x.buy(20, 2);
        x.buy(2, 1);
        Due.due("part(2, 0)", x.part(2, 0), FoldedProfiles.UNKNOWN);
        Due.due("part(-1, 1)", x.part(-1, 1), FoldedProfiles.UNKNOWN);
        Due.due("part(0, 0)", x.part(0, 0), FoldedProfiles.BAD_VALUE);
        Due.due("part(0, 200)", x.part(0, 200), FoldedProfiles.BAD_VALUE);
        Due.due("part(0, 199)", x.part(0, 199), FoldedProfiles.NOT_POSSIBLE);
        Due.due("part(0, 20)", x.part(0, 20), FoldedProfiles.NOT_POSSIBLE);
        Due.due("only buy was recorded", x.count(14), 2);
        Due.due("part(0, 19)", x.part(0, 19), 2);
        Due.due("first part", x.strip(0, 0), 19);
        Due.due("second part", x.strip(2, 0), 1);
        Due.due("its thickness", x.strip(2, 1), 2);
        Due.due("part(1, 1)", x.part(1, 1), 3);
        Due.due("part(2, 1) of length 1", x.part(2, 1), FoldedProfiles.NOT_POSSIBLE);
        Due.due("part(0, 5)", x.part(0, 5), 4);
        Due.due("part(4, 10)", x.part(4, 10), 5);
        Due.due("all lengths", x.count(4), 22);
        Due.due("a seventh", x.part(0, 1), FoldedProfiles.FULL);
        Due.due("FULL before NOT_POSSIBLE", x.part(0, 199), FoldedProfiles.FULL);
        Due.due("BAD_VALUE before FULL", x.part(0, 0), FoldedProfiles.BAD_VALUE);
        Due.due("UNKNOWN before FULL", x.part(6, 1), FoldedProfiles.UNKNOWN);
        Due.due("no time", x.count(0), 0);
        Due.due("not length that was cut", x.count(13), 0);
    }

    private static void strip() {
        FoldedProfiles x = new FoldedProfiles();
        x.buy(10, 1);
        x.buy(11, 2);
        x.buy(12, 3);
        int[][] folds = {
            // the blade, then the most folds of thickness 1, 2 and 3
            {1, 0, -5, -5}, {2, 1, 0, -5}, {3, 1, 0, 0}, {4, 2, 1, 0}, {5, 2, 1, 0}, {6, 2, 1, 1},
            {7, 2, 1, 1}, {8, 3, 2, 1}, {11, 3, 2, 1}, {12, 3, 2, 2}, {15, 3, 2, 2}, {16, 3, 3, 2},
            {23, 3, 3, 2}, {24, 3, 3, 3}};
        for (int[] row : folds) {
            x.set(2, row[0]);
            for (int strip = 0; strip < 3; strip++) {
                Due.due("blade " + row[0] + ", strip " + strip, x.strip(strip, 2), row[strip + 1]);
            }
        }
        Due.due("strip(1, 0)", x.strip(1, 0), 11);
        Due.due("strip(1, 1)", x.strip(1, 1), 2);
        Due.due("strip(3, 0)", x.strip(3, 0), FoldedProfiles.UNKNOWN);
        Due.due("strip(-1, 0)", x.strip(-1, 0), FoldedProfiles.UNKNOWN);
        Due.due("strip(3, 3)", x.strip(3, 3), FoldedProfiles.UNKNOWN);
        Due.due("strip(0, 3)", x.strip(0, 3), FoldedProfiles.BAD_VALUE);
        Due.due("strip(0, -1)", x.strip(0, -1), FoldedProfiles.BAD_VALUE);
    }
}
