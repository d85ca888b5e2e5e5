/** Promises 10 (cut), 11 (turn), 12 (set), 20 (layerWidth), 23 (ifCut), 24 (bestStrip), 25 (fewestFolds). */
public final class CuttingTest {
    public static void main(String[] args) {
        cut();
        cutChecksInOrder();
        cutUsesUpAStrip();
        cutTakesMarginAndCreep();
        cutOfSixStrips();
        cutCostsPatience();
        turn();
        turnCostsPatience();
        set();
        layerWidth();
        ifCut();
        ifCutChecksInOrder();
        ifCutServesBehindIt();
        bestStrip();
        fewestFolds();
        fewestFoldsByNumber();
        Due.end();
    }

    private static void cut() {
        int[][] due = {
            // folds: layers, length, lefts, rights, clock
            {1, 3, 1, 0, 1}, {2, 6, 1, 1, 2}, {4, 12, 2, 2, 3}, {8, 24, 4, 4, 4}};
        for (int folds = 0; folds <= 3; folds++) {
            FoldedProfiles x = Due.stallWith("12121212l");
            x.buy(100, 1);
            Due.due("cut " + folds, x.cut(0, 0, folds), due[folds][0]);
            Due.due("left of the strip " + folds, x.strip(0, 0), 100 - due[folds][1]);
            Due.due("length that was cut " + folds, x.count(13), due[folds][1]);
            Due.due("lefts " + folds, x.profile(0, 2), due[folds][2]);
            Due.due("rights " + folds, x.profile(0, 3), due[folds][3]);
            Due.due("clock " + folds, x.count(0), due[folds][4]);
            Due.due("cut so far " + folds, x.count(6), due[folds][0]);
            Due.due("of it " + folds, x.profile(0, 5), due[folds][0]);
            Due.due("stock " + folds, x.count(5), due[folds][0]);
            Due.due("patience " + folds, x.sitter(0, 2), 20 - due[folds][4]);
            Due.due("recorded " + folds, x.count(14), 3);
            Due.due("nobody is served " + folds, x.count(7), 0);
        }
    }

    private static void cutChecksInOrder() {
        FoldedProfiles x = Due.stallWith("99999999l");
        x.buy(9, 3);
        Due.due("cut(1, 0, 4)", x.cut(1, 0, 4), FoldedProfiles.UNKNOWN);
        Due.due("cut(-1, 0, 0)", x.cut(-1, 0, 0), FoldedProfiles.UNKNOWN);
        Due.due("cut(0, 1, 4)", x.cut(0, 1, 4), FoldedProfiles.UNKNOWN);
        Due.due("cut(0, -1, 0)", x.cut(0, -1, 0), FoldedProfiles.UNKNOWN);
        Due.due("cut(0, 0, 4)", x.cut(0, 0, 4), FoldedProfiles.BAD_VALUE);
        Due.due("cut(0, 0, -1)", x.cut(0, 0, -1), FoldedProfiles.BAD_VALUE);
        Due.due("cut(0, 0, 32)", x.cut(0, 0, 32), FoldedProfiles.BAD_VALUE);
        Due.due("too thick and too short", x.cut(0, 0, 2), -11);
        Due.due("too short", x.cut(0, 0, 1), -12);
        Due.due("too short by the margin", x.cut(0, 0, 0), -12);
        Due.due("nothing changed", x.count(14) * 100 + x.count(0) * 10 + x.count(5), 200);
        x.set(0, 0);
        Due.due("just long enough", x.cut(0, 0, 0), 1);
    }

    private static void cutUsesUpAStrip() {
        FoldedProfiles x = Due.stallWith("11111111l");
        x.buy(10, 1);
        x.buy(4, 2);
        x.buy(30, 3);
        Due.due("all of strip 1", x.cut(0, 1, 1), 2);
        Due.due("it is gone", x.count(2), 2);
        Due.due("strip 0 stays", x.strip(0, 0) * 10 + x.strip(0, 1), 101);
        Due.due("strip 2 is 1 now", x.strip(1, 0) * 10 + x.strip(1, 1), 303);
        Due.due("no strip 2", x.strip(2, 0), FoldedProfiles.UNKNOWN);
        Due.due("all lengths", x.count(4), 40);
        x.cut(0, 0, 2);
        x.cut(0, 0, 0);
        Due.due("the first is gone too", x.strip(0, 0), 30);
        Due.due("one is left", x.count(2), 1);
        Due.due("length that was cut", x.count(13), 14);
        Due.due("undo", x.undo(), 3);
        Due.due("2 are left", x.strip(0, 0) * 100 + x.strip(1, 0), 230);
    }

    private static void cutOfSixStrips() {
        FoldedProfiles x = Due.stallWith("11111111l");
        x.buy(12, 1);
        for (int strip = 0; strip < 5; strip++) {
            Due.due("part " + strip, x.part(strip, 2), strip + 1);
        }
        Due.due("the lowest of 6", x.bestStrip(0, 0), 0);
        Due.due("the last", x.ifCut(0, 5, 0, 2), 0);
        Due.due("of none of 6", x.bestStrip(0, 1), FoldedProfiles.NONE);
        Due.due("the first is used up", x.cut(0, 0, 0), 1);
        Due.due("5 are left", x.count(2), 5);
        Due.due("of 10", x.count(4), 10);
        Due.due("the last is used up", x.cut(0, 4, 0), 1);
        Due.due("of 8", x.count(4), 8);
    }

    private static void cutTakesMarginAndCreep() {
        FoldedProfiles x = Due.stallWith("31111111l");
        x.buy(80, 1);
        x.set(0, 2);
        x.set(1, 1);
        Due.due("length of no fold", x.ifCut(0, 0, 0, 1), 5);
        Due.due("length of 1 fold", x.ifCut(0, 0, 1, 1), 12);
        Due.due("length of 2 folds", x.ifCut(0, 0, 2, 1), 28);
        Due.due("length of 3 folds", x.ifCut(0, 0, 3, 1), 64);
        Due.due("cut", x.cut(0, 0, 3), 8);
        Due.due("strip", x.strip(0, 0), 16);
        Due.due("too short then", x.cut(0, 0, 2), -12);
    }

    private static void cutCostsPatience() {
        FoldedProfiles x = Due.stallWith("11111111l3;11111111r4;11111111l5;11111111l1");
        x.buy(100, 1);
        Due.due("4 ticks", x.cut(0, 0, 3), 8);
        Due.due("3 went", x.count(8), 3);
        Due.due("one waits", x.count(3), 1);
        Due.due("with patience 1", x.sitter(0, 2), 1);
        Due.due("the one of 5", x.sitter(0, 1), 0);
        Due.due("none served", x.count(7), 0);
        Due.due("without anything", x.count(5), 8);
        Due.due("nothing paid", x.count(9), 4);
    }

    private static void turn() {
        FoldedProfiles x = Due.stallWith("11111111l");
        x.buy(100, 1);
        Due.due("none to turn", x.turn(0, true), FoldedProfiles.NOT_POSSIBLE);
        Due.due("none to turn", x.turn(0, false), FoldedProfiles.NOT_POSSIBLE);
        Due.due("turn(1, true)", x.turn(1, true), FoldedProfiles.UNKNOWN);
        Due.due("turn(-1, false)", x.turn(-1, false), FoldedProfiles.UNKNOWN);
        x.cut(0, 0, 1);
        x.cut(0, 0, 0);
        Due.due("2 lefts and a right", x.profile(0, 2) * 10 + x.profile(0, 3), 21);
        Due.due("turn to the right", x.turn(0, true), 2);
        Due.due("1 left and 2 rights", x.profile(0, 2) * 10 + x.profile(0, 3), 12);
        Due.due("a tick", x.count(0), 4);
        Due.due("turn to the right", x.turn(0, true), 3);
        Due.due("no left any more", x.turn(0, true), FoldedProfiles.NOT_POSSIBLE);
        Due.due("turn to the left", x.turn(0, false), 1);
        Due.due("1 left and 2 rights", x.profile(0, 2) * 10 + x.profile(0, 3), 12);
        Due.due("ticks", x.count(0), 6);
        Due.due("not cut anew", x.count(6), 3);
        Due.due("recorded", x.undo(), 3);
        Due.due("3 rights", x.profile(0, 2) * 10 + x.profile(0, 3), 3);
    }

    private static void turnCostsPatience() {
        FoldedProfiles x = Due.stallWith("11111111r2;11111111r3");
        x.buy(100, 1);
        x.cut(0, 0, 0);
        x.turn(0, true);
        Due.due("one went", x.count(8), 1);
        Due.due("the other has 1", x.sitter(0, 2), 1);
        Due.due("and can be served", x.sitter(0, 3), 1);
    }

    private static void set() {
        FoldedProfiles x = new FoldedProfiles();
        Due.due("set(3, 0)", x.set(3, 0), FoldedProfiles.UNKNOWN);
        Due.due("set(-1, 99)", x.set(-1, 99), FoldedProfiles.UNKNOWN);
        int[][] edges = {{0, 0, 9, 1}, {1, 0, 3, 0}, {2, 1, 24, 8}};
        for (int[] row : edges) {
            int which = row[0];
            Due.due("below " + which, x.set(which, row[1] - 1), FoldedProfiles.BAD_VALUE);
            Due.due("above " + which, x.set(which, row[2] + 1), FoldedProfiles.BAD_VALUE);
            Due.due("MIN " + which, x.set(which, Integer.MIN_VALUE), FoldedProfiles.BAD_VALUE);
            Due.due("as it is " + which, x.set(which, row[3]), FoldedProfiles.NONE);
            Due.due("the greatest " + which, x.set(which, row[2]), row[3]);
            Due.due("is told " + which, x.count(10 + which), row[2]);
            Due.due("the least " + which, x.set(which, row[1]), row[2]);
            Due.due("is told " + which, x.count(10 + which), row[1]);
            Due.due("again " + which, x.set(which, row[1]), FoldedProfiles.NONE);
        }
        Due.due("undo", x.undo(), 3);
        Due.due("the setting 2", x.count(12), 24);
        FoldedProfiles y = new FoldedProfiles();
        y.set(0, 1);
        y.set(0, 10);
        Due.due("NONE and errors are not recorded", y.count(14), 0);
    }

    private static void layerWidth() {
        FoldedProfiles x = Due.stallWith("12345678l");
        Due.due("no creep at first", x.layerWidth(0, 4, 7), 5);
        x.set(1, 2);
        int[] due = {5, 5, 7, 7, 9, 9, 11, 11};
        for (int layer = 0; layer < 8; layer++) {
            Due.due("layerWidth(0, 4, " + layer + ")", x.layerWidth(0, 4, layer), due[layer]);
        }
        Due.due("layerWidth(1, 0, 8)", x.layerWidth(1, 0, 8), FoldedProfiles.UNKNOWN);
        Due.due("layerWidth(-1, 0, 0)", x.layerWidth(-1, 0, 0), FoldedProfiles.UNKNOWN);
        Due.due("layerWidth(0, 8, 8)", x.layerWidth(0, 8, 8), FoldedProfiles.UNKNOWN);
        Due.due("layerWidth(0, -1, 0)", x.layerWidth(0, -1, 0), FoldedProfiles.UNKNOWN);
        Due.due("layerWidth(0, 0, 8)", x.layerWidth(0, 0, 8), FoldedProfiles.BAD_VALUE);
        Due.due("layerWidth(0, 0, -1)", x.layerWidth(0, 0, -1), FoldedProfiles.BAD_VALUE);
    }

    private static void ifCut() {
        FoldedProfiles x = Due.stallWith("11111111l3;11111111l4;22222222c4;11111111r9");
        x.buy(100, 1);
        int[][] due = {
            {1, 2, 98, 0, 1}, {2, 4, 96, 0, 2}, {4, 8, 92, 1, 2}, {8, 16, 84, 3, 1}};
        for (int folds = 0; folds <= 3; folds++) {
            for (int what = 0; what < 5; what++) {
                String call = "ifCut(0, 0, " + folds + ", " + what + ")";
                Due.due(call, x.ifCut(0, 0, folds, what), due[folds][what]);
            }
        }
        Due.due("nothing changed", x.count(14) * 100 + x.count(0) * 10 + x.count(5), 200);
        Due.due("all wait", x.count(3), 4);
        Due.due("strip", x.strip(0, 0), 100);
        x.buy(16, 1);
        Due.due("nothing is left", x.ifCut(0, 1, 3, 2), 0);
        Due.due("sitters that go", x.ifCut(0, 1, 3, 3), 3);
        Due.due("sitters served", x.ifCut(0, 1, 3, 4), 1);
        Due.due("strips", x.count(2), 2);
        x.cut(0, 0, 2);
        Due.due("one went", x.count(8), 1);
        Due.due("two more would go", x.ifCut(0, 0, 0, 3), 2);
        Due.due("if there are two folds too", x.ifCut(0, 0, 2, 3), 2);
    }

    private static void ifCutChecksInOrder() {
        FoldedProfiles x = Due.stallWith("99999999l");
        x.buy(9, 3);
        Due.due("ifCut(1, 0, 4, 5)", x.ifCut(1, 0, 4, 5), FoldedProfiles.UNKNOWN);
        Due.due("ifCut(0, 1, 4, 5)", x.ifCut(0, 1, 4, 5), FoldedProfiles.UNKNOWN);
        Due.due("ifCut(-1, -1, 0, 0)", x.ifCut(-1, -1, 0, 0), FoldedProfiles.UNKNOWN);
        Due.due("ifCut(0, 0, 4, 0)", x.ifCut(0, 0, 4, 0), FoldedProfiles.BAD_VALUE);
        Due.due("ifCut(0, 0, -1, 0)", x.ifCut(0, 0, -1, 0), FoldedProfiles.BAD_VALUE);
        Due.due("ifCut(0, 0, 2, 5)", x.ifCut(0, 0, 2, 5), FoldedProfiles.BAD_VALUE);
        Due.due("ifCut(0, 0, 2, -1)", x.ifCut(0, 0, 2, -1), FoldedProfiles.BAD_VALUE);
        for (int what = 0; what < 5; what++) {
            Due.due("too thick " + what, x.ifCut(0, 0, 2, what), -11);
            Due.due("too short " + what, x.ifCut(0, 0, 1, what), -12);
        }
    }

    private static void ifCutServesBehindIt() {
        // what is in stock of others counts too, and the alike ones
        FoldedProfiles x = Due.stallWith("11111111c;22222222l;11111111r");
        x.draw(0, 0, 1);
        x.buy(100, 1);
        x.cut(1, 0, 0);
        Due.due("the couple and 22222222", x.ifCut(2, 0, 1, 4), 2);
        Due.due("all three", x.ifCut(2, 0, 2, 4), 3);
        Due.due("a left one for nobody but 22222222", x.ifCut(2, 0, 0, 4), 1);
    }

    private static void bestStrip() {
        FoldedProfiles x = Due.stallWith("33333333l");
        Due.due("no strips", x.bestStrip(0, 0), FoldedProfiles.NONE);
        x.buy(40, 1);
        x.buy(20, 3);
        x.buy(10, 1);
        x.part(0, 20);
        Due.due("the shortest", x.bestStrip(0, 0), 2);
        Due.due("the shortest by a fold", x.bestStrip(0, 1), 2);
        Due.due("the lowest of 20", x.bestStrip(0, 2), 0);
        Due.due("of none", x.bestStrip(0, 3), FoldedProfiles.NONE);
        x.trade(1, 1);
        Due.due("18 of 1", x.strip(1, 0), 18);
        Due.due("1 is shorter than 0 now", x.bestStrip(0, 2), 1);
        x.set(2, 3);
        x.trade(1, 3);
        Due.due("the blade is too weak for strip 1", x.bestStrip(0, 1), 2);
        Due.due("by a fold", x.bestStrip(0, 2), FoldedProfiles.NONE);
        longestStrip();
        Due.due("bestStrip(1, 4)", x.bestStrip(1, 4), FoldedProfiles.UNKNOWN);
        Due.due("bestStrip(-1, 0)", x.bestStrip(-1, 0), FoldedProfiles.UNKNOWN);
        Due.due("bestStrip(0, 4)", x.bestStrip(0, 4), FoldedProfiles.BAD_VALUE);
        Due.due("bestStrip(0, -1)", x.bestStrip(0, -1), FoldedProfiles.BAD_VALUE);
    }

    private static void longestStrip() {
        FoldedProfiles x = Due.stallWith("11111111l");
        x.buy(2, 1);
        x.cut(0, 0, 0);
        x.serve(0);
        Due.due("the longest strip costs 11", x.buy(200, 1), 0);
        Due.due("and is the best of one", x.bestStrip(0, 0), 0);
        Due.due("coins", x.count(9), 0);
    }

    private static void fewestFolds() {
        FoldedProfiles x = Due.stallWith("11111111l");
        Due.due("fewestFolds(1, 0)", x.fewestFolds(1, 0), FoldedProfiles.UNKNOWN);
        Due.due("fewestFolds(-1, 0)", x.fewestFolds(-1, 0), FoldedProfiles.UNKNOWN);
        Due.due("fewestFolds(0, 0)", x.fewestFolds(0, 0), FoldedProfiles.UNKNOWN);
        x.buy(30, 1);
        Due.due("fewestFolds(0, -1)", x.fewestFolds(0, -1), FoldedProfiles.UNKNOWN);
        Due.due("a left one", x.fewestFolds(0, 0), 0);
        x.come(0, 1, 90);
        Due.due("and a right one", x.fewestFolds(0, 0), 1);
        x.come(0, 2, 90);
        Due.due("and a couple", x.fewestFolds(0, 0), 2);
        x.come(0, 2, 90);
        Due.due("and another", x.fewestFolds(0, 0), 3);
        x.set(2, 4);
        Due.due("that is too thick", x.fewestFolds(0, 0), FoldedProfiles.NONE);
        x.set(2, 8);
        x.set(0, 3);
        Due.due("or too short", x.fewestFolds(0, 0), FoldedProfiles.NONE);
        x.set(0, 1);
        x.cut(0, 0, 1);
        Due.due("with 1 and 1 in stock", x.fewestFolds(0, 0), 2);
        x.cut(0, 0, 1);
        Due.due("with 2 and 2 in stock", x.fewestFolds(0, 0), 1);
        x.turn(0, true);
        Due.due("with 1 and 3 in stock, without turning", x.fewestFolds(0, 0), 2);
        x.serveAll();
        Due.due("the couples wait", x.count(3), 2);
        Due.due("with 0 and 2 in stock", x.fewestFolds(0, 0), 2);
        x.cut(0, 0, 0);
        Due.due("with 1 and 2 in stock", x.fewestFolds(0, 0), 0);
        x.come(0, 0, 90);
        x.come(0, 0, 90);
        x.come(0, 0, 90);
        x.come(0, 0, 90);
        Due.due("6 lefts can't be made", x.fewestFolds(0, 0), FoldedProfiles.NONE);
    }

    private static void fewestFoldsByNumber() {
        FoldedProfiles x = Due.stallWith("11111111c");
        x.draw(0, 0, 1);
        x.come(1, 2, 90);
        x.come(1, 2, 90);
        x.buy(20, 1);
        Due.due("one couple wants 0", x.fewestFolds(0, 0), 1);
        Due.due("two want 1", x.fewestFolds(1, 0), 2);
        x.cut(0, 0, 1);
        Due.due("what is in stock of 0 is not of 1", x.fewestFolds(1, 0), 2);
        Due.due("nobody wants more: 0", x.fewestFolds(0, 0), 0);
        x.part(0, 1);
        Due.due("nobody wants more, but it is too short", x.fewestFolds(0, 0), FoldedProfiles.NONE);
    }
}
