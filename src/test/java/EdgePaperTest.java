/** Boundary cases, sentence by sentence: profiles, strips, folding and cutting, trading, what is told of them. */
public final class EdgePaperTest {
    private static final String LEFT = "11111111l";

    public static void main(String[] args) {
        eightWidths();
        tenProfiles();
        profilesStay();
        alikeProfiles();
        drawnLikeAnother();
        sixStrips();
        lengthsAndThicknesses();
        usedUpStrips();
        price();
        coins();
        parts();
        trading();
        lengthTaken();
        greatestWidth();
        settings();
        blade();
        longEnough();
        sidesOfLayers();
        whatIsLeft();
        reasons();
        layers();
        foldsOfTheBlade();
        bestStrips();
        Due.end();
    }

    private static FoldedProfiles stallOfStrip(String signs, int length, int thickness) {
        FoldedProfiles x = Due.stallWith(signs);
        Due.due("buy(" + length + ", " + thickness + ")", x.buy(length, thickness), 0);
        return x;
    }

    private static void eightWidths() {
        Due.sentence("A profile is a row of 8 widths, from the brow to the chest, each 1 to 9");
        FoldedProfiles x = Due.stallWith("19283746l");
        int[] due = {1, 9, 2, 8, 3, 7, 4, 6};
        for (int step = 0; step < 8; step++) {
            Due.due("width(0, " + step + ")", x.width(0, step), due[step]);
        }
        Due.due("width(0, -1)", x.width(0, -1), FoldedProfiles.UNKNOWN);
        Due.due("width(0, 8)", x.width(0, 8), FoldedProfiles.UNKNOWN);
        Due.due("width(1, 0)", x.width(1, 0), FoldedProfiles.UNKNOWN);
        Due.due("width(-1, 7)", x.width(-1, 7), FoldedProfiles.UNKNOWN);
        Due.due("the greatest", x.profile(0, 0), 9);
        Due.due("the sum", x.profile(0, 1), 40);
        Due.due("least sum", Due.stallWith(LEFT).profile(0, 1), 8);
        Due.due("greatest sum", Due.stallWith("99999999l").profile(0, 1), 72);
        Due.due("least greatest width", Due.stallWith(LEFT).profile(0, 0), 1);
    }

    private static void tenProfiles() {
        Due.sentence("At most 10 profiles are kept, numbered from 0 in the order in which they came");
        FoldedProfiles x = Due.stallWith("11111111l;22222222l;33333333l;44444444l");
        for (int number = 4; number < 10; number++) {
            Due.due("draw " + number, x.draw(0, 0, number), number);
        }
        Due.due("10 are kept", x.count(1), 10);
        for (int number = 0; number < 10; number++) {
            Due.due("width of " + number, x.width(number, 0), number < 4 ? number + 1 : number);
        }
        Due.due("an eleventh", x.draw(9, 0, 1), FoldedProfiles.FULL);
        Due.due("no number 10", x.width(10, 0), FoldedProfiles.UNKNOWN);
        Due.due("undo of the tenth", x.undo(), 3);
        Due.due("the tenth again", x.draw(8, 7, 9), 9);
    }

    private static void profilesStay() {
        Due.sentence("they stay");
        FoldedProfiles x = stallOfStrip("11111111l2;22222222l3;33333333c9", 40, 1);
        Due.due("one goes", x.cut(0, 0, 1), 2);
        Due.due("one left one goes and one waits", x.count(3), 2);
        Due.due("another goes", x.turn(0, true), 2);
        Due.due("a cut", x.cut(2, 0, 1), 2);
        Due.due("the couple is served", x.serveAll(), 1);
        Due.due("nobody waits", x.count(3), 0);
        Due.due("3 profiles are kept", x.count(1), 3);
        for (int number = 0; number < 3; number++) {
            Due.due("width of " + number, x.width(number, 7), number + 1);
            Due.due("it can be wanted again", x.come(number, 0, 9), number + 1);
        }
    }

    private static void alikeProfiles() {
        Due.sentence("Two profiles are alike if all widths are the same");
        FoldedProfiles x = stallOfStrip(LEFT, 60, 1);
        for (int step = 0; step < 8; step++) {
            Due.due("another width at " + step, x.draw(0, step, 2), step + 1);
        }
        Due.due("the same widths", x.draw(8, 7, 1), 9);
        for (int number = 0; number < 9; number++) {
            Due.due("profile(" + number + ", 6)", x.profile(number, 6), number);
        }
        Due.due("profile(9, 6)", x.profile(9, 6), 0);
        for (int number = 1; number < 9; number++) {
            Due.due("cut of " + number, x.cut(number, 0, 0), 1);
            Due.due("does not serve 0", x.sitter(0, 3), 0);
        }
        Due.due("cut of 9", x.cut(9, 0, 0), 1);
        Due.due("serves 0", x.sitter(0, 3), 1);
        Due.due("and is given", x.serve(0), 8);
        Due.due("9 has none left", x.profile(9, 2), 0);
        Due.sentence("6 for the lowest profile that is alike (itself, if it is the first one)");
        FoldedProfiles y = Due.stallWith("11111111l;22222222l");
        Due.due("draw", y.draw(1, 7, 2), 2);
        Due.due("draw", y.draw(2, 7, 2), 3);
        Due.due("the lowest of 3", y.profile(3, 6), 1);
        Due.due("the second of 3", y.profile(2, 6), 1);
        Due.due("the first of 3", y.profile(1, 6), 1);
    }

    private static void drawnLikeAnother() {
        Due.sentence("Draws a profile like another one, with another width at a step");
        FoldedProfiles x = Due.stallWith("55555555l");
        Due.due("at the first step, the greatest", x.draw(0, 0, 9), 1);
        Due.due("at the last step, the least", x.draw(1, 7, 1), 2);
        int[] due = {9, 5, 5, 5, 5, 5, 5, 1};
        for (int step = 0; step < 8; step++) {
            Due.due("width(2, " + step + ")", x.width(2, step), due[step]);
            Due.due("width(0, " + step + ")", x.width(0, step), 5);
        }
        Due.sentence("UNKNOWN (profile or step); BAD_VALUE; FULL if there are 10");
        Due.due("draw(3, 0, 1)", x.draw(3, 0, 1), FoldedProfiles.UNKNOWN);
        Due.due("draw(-1, 0, 1)", x.draw(-1, 0, 1), FoldedProfiles.UNKNOWN);
        Due.due("draw(0, 8, 1)", x.draw(0, 8, 1), FoldedProfiles.UNKNOWN);
        Due.due("draw(0, -1, 1)", x.draw(0, -1, 1), FoldedProfiles.UNKNOWN);
        Due.due("draw(0, 0, 0)", x.draw(0, 0, 0), FoldedProfiles.BAD_VALUE);
        Due.due("draw(0, 0, 10)", x.draw(0, 0, 10), FoldedProfiles.BAD_VALUE);
        Due.due("nothing of it is kept", x.count(1), 3);
    }

    private static void sixStrips() {
        Due.sentence("There are at most 6 strips of black paper");
        FoldedProfiles x = new FoldedProfiles();
        for (int strip = 0; strip < 6; strip++) {
            Due.due("buy " + strip, x.buy(strip + 2, 1), strip);
        }
        for (int strip = 0; strip < 6; strip++) {
            Due.due("numbered as they came", x.strip(strip, 0), strip + 2);
        }
        Due.due("a seventh is not bought", x.buy(1, 1), FoldedProfiles.FULL);
        Due.due("nor parted off", x.part(0, 1), FoldedProfiles.FULL);
        Due.due("6", x.count(2), 6);
        Due.due("no strip 6", x.strip(6, 0), FoldedProfiles.UNKNOWN);
        Due.due("no strip -1", x.strip(-1, 0), FoldedProfiles.UNKNOWN);
        FoldedProfiles y = new FoldedProfiles();
        Due.due("buy", y.buy(21, 2), 0);
        for (int strip = 1; strip < 6; strip++) {
            Due.due("part to " + strip, y.part(strip - 1, 2), strip);
        }
        Due.due("a seventh is not parted off", y.part(5, 2), FoldedProfiles.FULL);
        Due.due("nor bought", y.buy(1, 1), FoldedProfiles.FULL);
        Due.due("of 21", y.count(4), 21);
    }

    private static void lengthsAndThicknesses() {
        Due.sentence("each with a length (1 to 200) and a thickness (1 to 3)");
        FoldedProfiles x = stallOfStrip(LEFT, 2, 1);
        Due.due("cut", x.cut(0, 0, 0), 1);
        Due.due("serve", x.serve(0), 11);
        Due.due("buy(201, 1)", x.buy(201, 1), FoldedProfiles.BAD_VALUE);
        Due.due("buy(0, 1)", x.buy(0, 1), FoldedProfiles.BAD_VALUE);
        Due.due("buy(1, 0)", x.buy(1, 0), FoldedProfiles.BAD_VALUE);
        Due.due("buy(1, 4)", x.buy(1, 4), FoldedProfiles.BAD_VALUE);
        Due.due("buy(200, 1)", x.buy(200, 1), 0);
        Due.due("the longest", x.strip(0, 0), 200);
        Due.due("coins", x.count(9), 0);
        Due.due("the longest first part", x.part(0, 199), 1);
        Due.due("the first part", x.strip(0, 0), 199);
        Due.due("the second part", x.strip(1, 0), 1);
        FoldedProfiles y = new FoldedProfiles();
        for (int thickness = 1; thickness <= 3; thickness++) {
            Due.due("buy(1, " + thickness + ")", y.buy(1, thickness), thickness - 1);
            Due.due("its thickness", y.strip(thickness - 1, 1), thickness);
            Due.due("its length", y.strip(thickness - 1, 0), 1);
        }
    }

    private static void usedUpStrips() {
        Due.sentence("if one is used up, those behind it get numbers that are 1 less");
        for (int used = 0; used < 6; used++) {
            FoldedProfiles x = Due.stallWith(LEFT);
            for (int strip = 0; strip < 6; strip++) {
                int length = strip == used ? 2 : strip + 3;
                Due.due("buy " + strip, x.buy(length, strip % 2 + 1), strip);
            }
            Due.due("strip " + used + " is used up", x.cut(0, used, 0), 1);
            Due.due("5 are left", x.count(2), 5);
            for (int strip = 0; strip < 5; strip++) {
                int was = strip < used ? strip : strip + 1;
                Due.due("length of " + was, x.strip(strip, 0), was + 3);
                Due.due("thickness of " + was, x.strip(strip, 1), was % 2 + 1);
            }
            Due.due("no strip 5", x.strip(5, 0), FoldedProfiles.UNKNOWN);
            Due.due("a new one is 5", x.buy(7, 1), 5);
            Due.due("behind all others", x.strip(5, 0), 7);
        }
        Due.sentence("a strip of which nothing is left is gone");
        FoldedProfiles y = stallOfStrip(LEFT, 2, 1);
        Due.due("the only one", y.cut(0, 0, 0), 1);
        Due.due("none is left", y.count(2), 0);
        Due.due("no strip 0", y.strip(0, 0), FoldedProfiles.UNKNOWN);
        Due.due("nothing to cut", y.cut(0, 0, 0), FoldedProfiles.UNKNOWN);
    }

    private static void price() {
        Due.sentence("a strip costs its thickness, and its length divided by 20, rounded down");
        int[][] prices = {{1, 1, 1}, {19, 1, 1}, {20, 1, 2}, {21, 1, 2}, {39, 1, 2}, {40, 1, 3}, {19, 2, 2},
            {20, 2, 3}, {19, 3, 3}, {20, 3, 4}, {59, 3, 5}, {60, 3, 6}, {99, 1, 5}, {100, 1, 6}, {179, 1, 9},
            {180, 1, 10}, {199, 1, 10}, {160, 2, 10}, {179, 2, 10}, {140, 3, 10}, {159, 3, 10}};
        for (int[] row : prices) {
            FoldedProfiles x = new FoldedProfiles();
            String call = "buy(" + row[0] + ", " + row[1] + ")";
            Due.due(call, x.buy(row[0], row[1]), 0);
            Due.due("coins behind " + call, x.count(9), 10 - row[2]);
        }
    }

    private static void coins() {
        Due.sentence("Coins are 10 at first, and are never below 0");
        FoldedProfiles x = new FoldedProfiles();
        Due.due("at first", x.count(9), 10);
        int[][] tooDear = {{200, 1}, {180, 2}, {160, 3}, {200, 3}};
        for (int[] row : tooDear) {
            Due.due("buy(" + row[0] + ", " + row[1] + ")", x.buy(row[0], row[1]), FoldedProfiles.NOT_POSSIBLE);
        }
        Due.due("nothing is paid", x.count(9), 10);
        Due.due("a strip for all coins", x.buy(199, 1), 0);
        Due.due("no coins", x.count(9), 0);
        Due.due("the cheapest strip", x.buy(1, 1), FoldedProfiles.NOT_POSSIBLE);
        FoldedProfiles y = new FoldedProfiles();
        Due.due("a strip for 8", y.buy(140, 1), 0);
        Due.due("a strip for 3 of 2", y.buy(1, 3), FoldedProfiles.NOT_POSSIBLE);
        Due.due("a strip for 2 of 2", y.buy(1, 2), 1);
        Due.due("no coins", y.count(9), 0);
    }

    private static void parts() {
        Due.sentence("Cuts a strip in two, without a profile; the second part comes behind all others");
        FoldedProfiles x = Due.stallWith(LEFT);
        x.buy(3, 2);
        x.buy(5, 1);
        Due.due("part(0, 1)", x.part(0, 1), 2);
        Due.due("the first part", x.strip(0, 0) * 10 + x.strip(0, 1), 12);
        Due.due("the other strip", x.strip(1, 0) * 10 + x.strip(1, 1), 51);
        Due.due("the second part", x.strip(2, 0) * 10 + x.strip(2, 1), 22);
        Due.due("no profile", x.count(5) + x.count(6), 0);
        Due.sentence("This takes no time");
        Due.due("the clock", x.count(0), 0);
        Due.due("patience", x.sitter(0, 2), 20);
        Due.sentence("1 to 199: that of the first part");
        Due.due("part(1, 0)", x.part(1, 0), FoldedProfiles.BAD_VALUE);
        Due.due("part(1, 200)", x.part(1, 200), FoldedProfiles.BAD_VALUE);
        Due.due("part(1, -1)", x.part(1, -1), FoldedProfiles.BAD_VALUE);
        Due.sentence("NOT_POSSIBLE if the strip is not longer than that");
        Due.due("part(1, 199)", x.part(1, 199), FoldedProfiles.NOT_POSSIBLE);
        Due.due("part(1, 6)", x.part(1, 6), FoldedProfiles.NOT_POSSIBLE);
        Due.due("part(1, 5)", x.part(1, 5), FoldedProfiles.NOT_POSSIBLE);
        Due.due("part(0, 1) of 1", x.part(0, 1), FoldedProfiles.NOT_POSSIBLE);
        Due.due("part(1, 4)", x.part(1, 4), 3);
        Due.due("all lengths", x.count(4), 8);
        Due.sentence("Returns the number of the second part; UNKNOWN; BAD_VALUE; FULL if there are 6");
        Due.due("part(4, 1)", x.part(4, 1), FoldedProfiles.UNKNOWN);
        Due.due("part(-1, 1)", x.part(-1, 1), FoldedProfiles.UNKNOWN);
        Due.due("part(1, 3)", x.part(1, 3), 4);
        Due.due("part(1, 2)", x.part(1, 2), 5);
        Due.due("part(1, 1) of 6", x.part(1, 1), FoldedProfiles.FULL);
    }

    private static void trading() {
        Due.sentence("a strip of at least 10 is given for one that is 2 shorter, and of another thickness");
        FoldedProfiles x = new FoldedProfiles();
        x.buy(9, 1);
        x.buy(12, 1);
        Due.due("9 is too short", x.trade(0, 2), FoldedProfiles.NOT_POSSIBLE);
        Due.due("the same thickness", x.trade(1, 1), FoldedProfiles.NOT_POSSIBLE);
        Due.due("12 for 10", x.trade(1, 3), 10);
        Due.due("the same thickness now", x.trade(1, 3), FoldedProfiles.NOT_POSSIBLE);
        Due.due("10 for 8", x.trade(1, 1), 8);
        Due.due("8 is too short", x.trade(1, 2), FoldedProfiles.NOT_POSSIBLE);
        Due.sentence("Trades a strip; its number stays");
        Due.due("strip 1", x.strip(1, 0) * 10 + x.strip(1, 1), 81);
        Due.due("strip 0", x.strip(0, 0) * 10 + x.strip(0, 1), 91);
        Due.due("2 strips", x.count(2), 2);
        Due.due("nothing is paid", x.count(9), 8);
        FoldedProfiles three = new FoldedProfiles();
        three.buy(12, 1);
        three.buy(13, 1);
        three.buy(14, 1);
        Due.due("the first of 3", three.trade(0, 2), 10);
        Due.due("the second of 3", three.trade(1, 3), 11);
        for (int strip = 0; strip < 3; strip++) {
            Due.due("length of " + strip, three.strip(strip, 0), strip < 2 ? 10 + strip : 14);
            Due.due("thickness of " + strip, three.strip(strip, 1), strip < 2 ? 2 + strip : 1);
        }
        Due.sentence("Returns its length then; UNKNOWN; BAD_VALUE; NOT_POSSIBLE");
        Due.due("trade(2, 1)", x.trade(2, 1), FoldedProfiles.UNKNOWN);
        Due.due("trade(-1, 1)", x.trade(-1, 1), FoldedProfiles.UNKNOWN);
        Due.due("trade(1, 0)", x.trade(1, 0), FoldedProfiles.BAD_VALUE);
        Due.due("trade(1, 4)", x.trade(1, 4), FoldedProfiles.BAD_VALUE);
        FoldedProfiles y = new FoldedProfiles();
        y.buy(199, 1);
        Due.due("to the thickest", y.trade(0, 3), 197);
        Due.due("by one less", y.trade(0, 2), 195);
        Due.due("of 6 strips too", tradeOfSix(), 13);
    }

    private static int tradeOfSix() {
        FoldedProfiles x = new FoldedProfiles();
        for (int strip = 0; strip < 6; strip++) {
            x.buy(15, 1);
        }
        return x.trade(5, 2);
    }

    private static void lengthTaken() {
        Due.sentence("So much of the length is taken as layers times the width of the blank");
        int[] margins = {0, 1, 5, 9};
        for (int widest = 1; widest <= 9; widest += 4) {
            FoldedProfiles x = stallOfStrip("1111" + widest + "111l", 199, 1);
            for (int margin : margins) {
                x.set(0, margin);
                for (int creep = 0; creep <= 3; creep++) {
                    x.set(1, creep);
                    lengthsOfFolds(x, widest, margin, creep);
                }
            }
        }
    }

    private static void lengthsOfFolds(FoldedProfiles x, int widest, int margin, int creep) {
        int[] layers = {1, 2, 4, 8};
        for (int folds = 0; folds <= 3; folds++) {
            int length = layers[folds] * (widest + margin + folds * creep);
            String of = "width " + widest + ", margin " + margin + ", creep " + creep + ", folds " + folds;
            Due.due("length taken: " + of, x.ifCut(0, 0, folds, 1), length <= 199 ? length : -12);
            Due.due("length left: " + of, x.ifCut(0, 0, folds, 2), length <= 199 ? 199 - length : -12);
        }
    }

    private static void greatestWidth() {
        Due.sentence("the greatest width of the profile");
        FoldedProfiles x = stallOfStrip(LEFT, 60, 1);
        for (int step = 0; step < 8; step++) {
            Due.due("draw", x.draw(0, step, 7), step + 1);
            Due.due("greatest at " + step, x.profile(step + 1, 0), 7);
            Due.due("its length", x.ifCut(step + 1, 0, 0, 1), 8);
        }
        Due.due("cut", x.cut(8, 0, 1), 2);
        Due.due("16 of 60 are taken", x.strip(0, 0), 44);
        Due.due("length that was cut", x.count(13), 16);
    }

    private static void settings() {
        Due.sentence("the setting 0; 0 to 9; 1 at first");
        edgesOfSetting(0, 0, 9, 1);
        Due.sentence("the setting 1; 0 to 3; 0 at first");
        edgesOfSetting(1, 0, 3, 0);
        Due.sentence("the setting 2 (1 to 24; 8 at first)");
        edgesOfSetting(2, 1, 24, 8);
        Due.sentence("Returns the previous one; UNKNOWN; BAD_VALUE; NONE if it is so already");
        FoldedProfiles x = new FoldedProfiles();
        Due.due("set(3, 1)", x.set(3, 1), FoldedProfiles.UNKNOWN);
        Due.due("set(-1, 1)", x.set(-1, 1), FoldedProfiles.UNKNOWN);
    }

    private static void edgesOfSetting(int which, int least, int most, int first) {
        FoldedProfiles x = new FoldedProfiles();
        Due.due("at first", x.count(10 + which), first);
        Due.due("as it is at first", x.set(which, first), FoldedProfiles.NONE);
        Due.due("below the least", x.set(which, least - 1), FoldedProfiles.BAD_VALUE);
        Due.due("above the greatest", x.set(which, most + 1), FoldedProfiles.BAD_VALUE);
        int previous = first;
        for (int value = most; value >= least; value--) {
            if (value != previous) {
                Due.due("set(" + which + ", " + value + ")", x.set(which, value), previous);
            }
            Due.due("as it is", x.set(which, value), FoldedProfiles.NONE);
            Due.due("count(" + (10 + which) + ")", x.count(10 + which), value);
            previous = value;
        }
        for (int other = 0; other < 3; other++) {
            int[] atFirst = {1, 0, 8};
            if (other != which) {
                Due.due("the setting " + other, x.count(10 + other), atFirst[other]);
            }
        }
    }

    private static void blade() {
        Due.sentence("Layers times the thickness must not be above the setting 2");
        int[] layers = {1, 2, 4, 8};
        for (int thickness = 1; thickness <= 3; thickness++) {
            for (int folds = 0; folds <= 3; folds++) {
                int all = layers[folds] * thickness;
                String of = folds + " folds of thickness " + thickness;
                FoldedProfiles x = stallOfStrip(LEFT, 30, thickness);
                if (all > 1) {
                    x.set(2, all - 1);
                    Due.due(of + ": it would be too thick", x.cut(0, 0, folds), -11);
                    Due.due(of + ": so it is told", x.ifCut(0, 0, folds, 0), -11);
                }
                x.set(2, all);
                Due.due(of + ": told for the blade", x.ifCut(0, 0, folds, 0), layers[folds]);
                Due.due(of + ": just for the blade", x.cut(0, 0, folds), layers[folds]);
            }
        }
    }

    private static void longEnough() {
        Due.sentence("2 the strip is too short");
        for (int folds = 0; folds <= 3; folds++) {
            int layers = 1 << folds;
            int length = 2 * layers;
            FoldedProfiles tooShort = stallOfStrip(LEFT, length - 1, 1);
            Due.due("1 less than " + folds + " folds take", tooShort.cut(0, 0, folds), -12);
            Due.due("so it is told", tooShort.ifCut(0, 0, folds, 2), -12);
            FoldedProfiles just = stallOfStrip(LEFT, length, 1);
            Due.due("nothing would be left", just.ifCut(0, 0, folds, 2), 0);
            Due.due("just what " + folds + " folds take", just.cut(0, 0, folds), layers);
            Due.due("the strip is gone", just.count(2), 0);
            FoldedProfiles longer = stallOfStrip(LEFT, length + 1, 1);
            Due.due("1 more than " + folds + " folds take", longer.cut(0, 0, folds), layers);
            Due.due("1 is left and stays a strip", longer.strip(0, 0), 1);
        }
    }

    private static void sidesOfLayers() {
        Due.sentence("the layers 0, 2, 4 and 6 look to the left, the others to the right");
        int[][] due = {{1, 0}, {1, 1}, {2, 2}, {4, 4}};
        for (int folds = 0; folds <= 3; folds++) {
            FoldedProfiles x = stallOfStrip(LEFT, 30, 1);
            x.cut(0, 0, folds);
            Due.due(folds + " folds: lefts", x.profile(0, 2), due[folds][0]);
            Due.due(folds + " folds: rights", x.profile(0, 3), due[folds][1]);
        }
    }

    private static void whatIsLeft() {
        Due.sentence("What is left of the strip stays a strip");
        FoldedProfiles x = Due.stallWith(LEFT);
        x.buy(6, 1);
        x.buy(9, 3);
        x.buy(7, 1);
        Due.due("cut", x.cut(0, 1, 1), 2);
        Due.due("of the same thickness", x.strip(1, 1), 3);
        Due.due("and number", x.strip(1, 0), 5);
        Due.due("the others", x.strip(0, 0) * 10 + x.strip(2, 0), 67);
        Due.due("cut", x.cut(0, 1, 1), 2);
        Due.due("of 1", x.strip(1, 0), 1);
        Due.due("that is too short", x.cut(0, 1, 0), -12);
        Due.due("3 strips", x.count(2), 3);
        Due.due("of 14", x.count(4), 14);
        Due.due("8 were cut off", x.count(13), 8);
    }

    private static void reasons() {
        Due.sentence("NO_CUT minus the first reason that holds: 1 it would be too thick, 2 the strip is too short");
        FoldedProfiles x = stallOfStrip("99999999l", 39, 3);
        Due.due("both", x.cut(0, 0, 2), FoldedProfiles.NO_CUT - 1);
        Due.due("both are told", x.ifCut(0, 0, 2, 4), FoldedProfiles.NO_CUT - 1);
        x.set(2, 12);
        Due.due("only too short", x.cut(0, 0, 2), FoldedProfiles.NO_CUT - 2);
        x.set(0, 0);
        x.set(2, 11);
        Due.due("only too thick", x.cut(0, 0, 2), FoldedProfiles.NO_CUT - 1);
        x.set(2, 12);
        Due.due("neither", x.cut(0, 0, 2), 4);
        Due.sentence("0 to 3");
        Due.due("cut(0, 0, -1)", x.cut(0, 0, -1), FoldedProfiles.BAD_VALUE);
        Due.due("cut(0, 0, 4)", x.cut(0, 0, 4), FoldedProfiles.BAD_VALUE);
        Due.due("bestStrip(0, 4)", x.bestStrip(0, 4), FoldedProfiles.BAD_VALUE);
        Due.due("bestStrip(0, -1)", x.bestStrip(0, -1), FoldedProfiles.BAD_VALUE);
        Due.due("ifCut(0, 0, 4, 0)", x.ifCut(0, 0, 4, 0), FoldedProfiles.BAD_VALUE);
        Due.due("ifCut(0, 0, -1, 0)", x.ifCut(0, 0, -1, 0), FoldedProfiles.BAD_VALUE);
        Due.due("ifCut(0, 0, 0, 5)", x.ifCut(0, 0, 0, 5), FoldedProfiles.BAD_VALUE);
        Due.due("ifCut(0, 0, 0, -1)", x.ifCut(0, 0, 0, -1), FoldedProfiles.BAD_VALUE);
    }

    private static void layers() {
        Due.sentence("for the layer l the creep times (l divided by 2, rounded down) more");
        int[] pairs = {0, 0, 1, 1, 2, 2, 3, 3};
        FoldedProfiles x = Due.stallWith("19111119l");
        for (int creep = 0; creep <= 3; creep++) {
            x.set(1, creep);
            for (int layer = 0; layer < 8; layer++) {
                String of = "creep " + creep + ", layer " + layer;
                Due.due(of, x.layerWidth(0, 0, layer), 1 + creep * pairs[layer]);
                Due.due(of + ", the last step", x.layerWidth(0, 7, layer), 9 + creep * pairs[layer]);
            }
        }
        Due.sentence("Returns the width; UNKNOWN (profile or step); BAD_VALUE (layer)");
        Due.due("layerWidth(0, 0, 8)", x.layerWidth(0, 0, 8), FoldedProfiles.BAD_VALUE);
        Due.due("layerWidth(0, 0, -1)", x.layerWidth(0, 0, -1), FoldedProfiles.BAD_VALUE);
        Due.due("layerWidth(0, 8, 0)", x.layerWidth(0, 8, 0), FoldedProfiles.UNKNOWN);
        Due.due("layerWidth(0, -1, 0)", x.layerWidth(0, -1, 0), FoldedProfiles.UNKNOWN);
        Due.due("layerWidth(1, 0, 0)", x.layerWidth(1, 0, 0), FoldedProfiles.UNKNOWN);
        Due.due("layerWidth(-1, 0, 0)", x.layerWidth(-1, 0, 0), FoldedProfiles.UNKNOWN);
    }

    private static void foldsOfTheBlade() {
        Due.sentence("the most folds that the blade goes through (0 to 3; NONE if it does not go through one layer)");
        FoldedProfiles x = new FoldedProfiles();
        x.buy(1, 1);
        x.buy(1, 2);
        x.buy(1, 3);
        for (int blade = 1; blade <= 24; blade++) {
            x.set(2, blade);
            for (int strip = 0; strip < 3; strip++) {
                int of = blade / (strip + 1);
                int folds = of >= 8 ? 3 : of >= 4 ? 2 : of >= 2 ? 1 : of >= 1 ? 0 : FoldedProfiles.NONE;
                Due.due("blade " + blade + ", thickness " + (strip + 1), x.strip(strip, 2), folds);
            }
        }
        Due.due("strip(0, 3)", x.strip(0, 3), FoldedProfiles.BAD_VALUE);
        Due.due("strip(0, -1)", x.strip(0, -1), FoldedProfiles.BAD_VALUE);
        Due.due("strip(3, 0)", x.strip(3, 0), FoldedProfiles.UNKNOWN);
        Due.due("strip(-1, 2)", x.strip(-1, 2), FoldedProfiles.UNKNOWN);
    }

    private static void bestStrips() {
        Due.sentence("Finds the strip of which a cut with some folds leaves the least, of several the lowest");
        FoldedProfiles x = Due.stallWith(LEFT);
        Due.due("of no strips", x.bestStrip(0, 0), FoldedProfiles.NONE);
        x.buy(9, 1);
        x.buy(8, 3);
        x.buy(8, 2);
        x.buy(8, 2);
        Due.due("the lowest of 3", x.bestStrip(0, 0), 1);
        Due.due("the lowest of 3 by a fold", x.bestStrip(0, 1), 1);
        Due.due("1 is too thick, 2 is used up", x.bestStrip(0, 2), 2);
        Due.due("all are too thick or too short", x.bestStrip(0, 3), FoldedProfiles.NONE);
        x.set(2, 4);
        Due.due("2 and 3 are too thick too", x.bestStrip(0, 2), 0);
        x.set(2, 3);
        Due.due("all are too thick", x.bestStrip(0, 2), FoldedProfiles.NONE);
        x.set(0, 7);
        Due.due("just long enough", x.bestStrip(0, 0), 1);
        x.set(0, 8);
        Due.due("only the longest", x.bestStrip(0, 0), 0);
        x.set(0, 9);
        Due.due("all are too short", x.bestStrip(0, 0), FoldedProfiles.NONE);
        Due.due("bestStrip(1, 0)", x.bestStrip(1, 0), FoldedProfiles.UNKNOWN);
        Due.due("bestStrip(-1, 0)", x.bestStrip(-1, 0), FoldedProfiles.UNKNOWN);
        FoldedProfiles six = Due.stallWith(LEFT);
        int[] lengths = {7, 6, 5, 4, 3, 2};
        for (int strip = 0; strip < 6; strip++) {
            six.buy(lengths[strip], 1);
        }
        Due.due("the last of 6", six.bestStrip(0, 0), 5);
        Due.due("of which it leaves the least by a fold", six.bestStrip(0, 1), 3);
        FoldedProfiles longest = stallOfStrip(LEFT, 2, 1);
        longest.cut(0, 0, 0);
        longest.serve(0);
        longest.buy(200, 1);
        Due.due("the longest alone", longest.bestStrip(0, 3), 0);
        longest.part(0, 199);
        Due.due("by 1 shorter alone", longest.bestStrip(0, 0), 0);
    }
}
