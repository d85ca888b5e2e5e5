/** Boundary cases, sentence by sentence: sitters, their patience and serving, turning, what is told of them. */
public final class EdgeSittersTest {
    public static void main(String[] args) {
        twelveSitters();
        wantsAndPatiences();
        ticks();
        noTicks();
        patienceOfACut();
        patienceOfATurn();
        inStockByThen();
        wholeLineGoes();
        lowestWithEnough();
        coupleOfOneNumber();
        pay();
        anySitter();
        serveRefused();
        serveAll();
        serveAllFromTheHead();
        turning();
        toldOfAProfile();
        toldOfASitter();
        ifCutGoing();
        ifCutServing();
        fewestFoldsOfWants();
        fewestFoldsOfStock();
        fewestFoldsByNumber();
        fewestFoldsNotPossible();
        Due.end();
    }

    private static FoldedProfiles stallOfStrip(String signs, int length) {
        FoldedProfiles x = Due.stallWith(signs);
        Due.due("buy(" + length + ", 1)", x.buy(length, 1), 0);
        return x;
    }

    private static int stock(FoldedProfiles x, int profile) {
        return x.profile(profile, 2) * 10 + x.profile(profile, 3);
    }

    private static void patiences(String when, FoldedProfiles x, int... due) {
        Due.due(when + ": how many wait", x.count(3), due.length);
        for (int sitter = 0; sitter < due.length; sitter++) {
            Due.due(when + ": patience of " + sitter, x.sitter(sitter, 2), due[sitter]);
        }
        Due.due(when + ": nobody behind them", x.sitter(due.length, 2), FoldedProfiles.UNKNOWN);
    }

    private static void twelveSitters() {
        Due.sentence("A line of at most 12 sitters waits");
        FoldedProfiles x = Due.stallWith("11111111l99");
        for (int waiting = 2; waiting <= 12; waiting++) {
            Due.due("come " + waiting, x.come(0, 1, waiting), waiting);
        }
        Due.due("a thirteenth", x.come(0, 0, 9), FoldedProfiles.FULL);
        Due.due("a thirteenth by the text", x.comeAll(), FoldedProfiles.FULL);
        patiences("12", x, 99, 2, 3, 4, 5, 6, 7, 8, 9, 10, 11, 12);
        Due.due("no sitter 12", x.sitter(12, 0), FoldedProfiles.UNKNOWN);
        Due.due("serve(12)", x.serve(12), FoldedProfiles.UNKNOWN);
        Due.due("undo", x.undo(), 3);
        Due.due("the twelfth again", x.come(0, 2, 1), 12);
        x.undo();
        Due.due("the twelfth by the text", x.comeAll(), 12);
    }

    private static void wantsAndPatiences() {
        Due.sentence("0 to the left, 1 to the right, 2 as a couple: one of each, and has a patience (1 to 99 ticks)");
        FoldedProfiles x = Due.stallWith("11111111l");
        for (int want = 0; want <= 2; want++) {
            Due.due("come(0, " + want + ", 1)", x.come(0, want, 1), 2 * want + 2);
            Due.due("come(0, " + want + ", 99)", x.come(0, want, 99), 2 * want + 3);
            Due.due("the first wants", x.sitter(2 * want + 1, 1), want);
            Due.due("the second wants", x.sitter(2 * want + 2, 1), want);
        }
        patiences("7", x, 20, 1, 99, 1, 99, 1, 99);
        Due.sentence("Returns how many wait then; UNKNOWN; BAD_VALUE; FULL if 12 wait");
        Due.due("come(0, 3, 9)", x.come(0, 3, 9), FoldedProfiles.BAD_VALUE);
        Due.due("come(0, -1, 9)", x.come(0, -1, 9), FoldedProfiles.BAD_VALUE);
        Due.due("come(0, 0, 0)", x.come(0, 0, 0), FoldedProfiles.BAD_VALUE);
        Due.due("come(0, 0, 100)", x.come(0, 0, 100), FoldedProfiles.BAD_VALUE);
        Due.due("come(0, 0, -1)", x.come(0, 0, -1), FoldedProfiles.BAD_VALUE);
        Due.due("come(1, 0, 9)", x.come(1, 0, 9), FoldedProfiles.UNKNOWN);
        Due.due("come(-1, 0, 9)", x.come(-1, 0, 9), FoldedProfiles.UNKNOWN);
    }

    private static void ticks() {
        Due.sentence("The clock grows by 1 for each cut, for each fold of it, and for each turning");
        int clock = 0;
        FoldedProfiles x = stallOfStrip("11111111l99", 100);
        for (int folds = 0; folds <= 3; folds++) {
            x.cut(0, 0, folds);
            clock += 1 + folds;
            Due.due(folds + " folds", x.count(0), clock);
            patiences(folds + " folds", x, 99 - clock);
        }
        x.turn(0, true);
        Due.due("a turning", x.count(0), clock + 1);
        x.turn(0, false);
        Due.due("a turning back", x.count(0), clock + 2);
        patiences("the turnings", x, 97 - clock);
        Due.due("a cut that is refused", x.cut(0, 0, 4), FoldedProfiles.BAD_VALUE);
        Due.due("takes no time", x.count(0), clock + 2);
    }

    private static void noTicks() {
        Due.sentence("Serving takes no time");
        FoldedProfiles x = stallOfStrip("11111111l3;11111111r3;11111111c3;11111111c99", 40);
        x.cut(0, 0, 1);
        patiences("a cut", x, 1, 1, 1, 97);
        Due.due("serve", x.serve(1), 9);
        Due.due("serveAll", x.serveAll(), 1);
        x.part(0, 20);
        x.trade(1, 2);
        x.buy(20, 1);
        x.draw(0, 0, 9);
        x.come(1, 0, 1);
        x.set(0, 0);
        x.set(2, 9);
        x.ifCut(0, 0, 3, 3);
        x.ifCut(0, 0, 3, 4);
        x.keep();
        x.restore();
        Due.due("only the cut took time", x.count(0), 2);
        patiences("nobody else lost patience", x, 1, 97, 1);
        Due.due("nobody went", x.count(8), 0);
    }

    private static void patienceOfACut() {
        Due.sentence("those whose patience is 0 then, or would be less, go at once, without anything");
        for (int folds = 0; folds <= 3; folds++) {
            int ticks = folds + 1;
            FoldedProfiles x = stallOfStrip("11111111l" + ticks + ";11111111r" + (ticks + 1), 40);
            x.come(0, 2, ticks);
            x.come(0, 2, 1);
            x.come(0, 1, 99);
            x.come(0, 0, ticks + 1);
            x.come(0, 0, 1);
            Due.due("told", x.ifCut(0, 0, folds, 3), 4);
            Due.due("cut with " + folds + " folds", x.cut(0, 0, folds), 1 << folds);
            patiences(folds + " folds", x, 1, 99 - ticks, 1);
            Due.due("the first wants", x.sitter(0, 1), 1);
            Due.due("the second wants", x.sitter(1, 1), 1);
            Due.due("the third wants", x.sitter(2, 1), 0);
            Due.due("4 went", x.count(8), 4);
            Due.due("none was served", x.count(7), 0);
            Due.due("nothing was paid", x.count(9), 7);
            Due.due("nothing was taken along", x.count(5), 1 << folds);
        }
    }

    private static void patienceOfATurn() {
        Due.sentence("for each turning; the patience of all that wait becomes as much less");
        FoldedProfiles x = stallOfStrip("11111111l2;11111111r3;11111111c2;11111111l99", 40);
        x.cut(0, 0, 0);
        patiences("a cut", x, 1, 2, 1, 98);
        Due.due("turn", x.turn(0, true), 1);
        patiences("a turning", x, 1, 97);
        Due.due("2 went", x.count(8), 2);
        Due.due("turn back", x.turn(0, false), 1);
        patiences("another", x, 96);
        Due.due("3 went", x.count(8), 3);
        Due.due("stock", stock(x, 0), 10);
    }

    private static void inStockByThen() {
        Due.sentence("behind a cut its profiles are in stock by then");
        FoldedProfiles x = stallOfStrip("11111111l1;11111111c2;11111111r3", 40);
        Due.due("cut", x.cut(0, 0, 1), 2);
        Due.due("in stock", stock(x, 0), 11);
        Due.due("the one that waits can be served", x.sitter(0, 3), 1);
        Due.due("and is", x.serve(0), 9);
        Due.due("those that went are not served", x.count(7) * 10 + x.count(8), 12);
    }

    private static void wholeLineGoes() {
        Due.sentence("those whose patience is 0 then, or would be less, go at once");
        FoldedProfiles x = stallOfStrip("11111111l1", 40);
        for (int waiting = 2; waiting <= 12; waiting++) {
            x.come(0, waiting % 3, 1 + waiting % 4);
        }
        Due.due("all 12 would go", x.ifCut(0, 0, 3, 3), 12);
        Due.due("none would be served", x.ifCut(0, 0, 3, 4), 0);
        Due.due("cut", x.cut(0, 0, 3), 8);
        Due.due("nobody waits", x.count(3), 0);
        Due.due("12 went", x.count(8), 12);
        Due.due("8 are in stock", x.count(5), 8);
        Due.due("nobody to serve", x.serveAll(), FoldedProfiles.NONE);
        Due.due("serve(0)", x.serve(0), FoldedProfiles.UNKNOWN);
        Due.due("the line begins anew", x.come(0, 0, 5), 1);
    }

    private static void lowestWithEnough() {
        Due.sentence("perhaps the wanted one itself; of several the lowest number of which there is enough");
        // 0, 2 and 3 are alike
        FoldedProfiles x = stallOfStrip("11111111l99;22222222l99", 40);
        x.draw(0, 0, 1);
        x.draw(0, 7, 1);
        x.come(2, 0, 99);
        x.come(3, 0, 99);
        x.cut(3, 0, 0);
        Due.due("the wanted 0 by 3", x.serve(0), 9);
        Due.due("none of 3 is left", stock(x, 3), 0);
        x.cut(3, 0, 0);
        x.cut(2, 0, 0);
        Due.due("the wanted 3 by 2", x.serve(2), 11);
        Due.due("one of 3 is left", stock(x, 2) * 100 + stock(x, 3), 10);
        x.cut(2, 0, 0);
        Due.due("the wanted 2 by itself", x.serve(1), 13);
        Due.due("one of 3 is left", stock(x, 2) * 100 + stock(x, 3), 10);
        Due.due("22222222 is not alike", x.serve(0), FoldedProfiles.NOT_POSSIBLE);
    }

    private static void coupleOfOneNumber() {
        Due.sentence("for a couple one to the left and one to the right of the same number");
        FoldedProfiles x = stallOfStrip("11111111c99;11111111c99", 60);
        x.draw(0, 0, 1);
        x.draw(0, 0, 1);
        x.cut(0, 0, 0);
        Due.due("only a left one", x.sitter(0, 3), 0);
        x.cut(1, 0, 0);
        x.turn(1, true);
        Due.due("a left one and a right one of two numbers", x.sitter(0, 3), 0);
        Due.due("are not enough", x.serve(0), FoldedProfiles.NOT_POSSIBLE);
        Due.due("for all", x.serveAll(), FoldedProfiles.NONE);
        x.cut(2, 0, 1);
        Due.due("one of each of 2", x.sitter(0, 3), 1);
        Due.due("they are given", x.serve(0), 11);
        Due.due("those of 0 and 1 stay", stock(x, 0) * 100 + stock(x, 1), 1001);
        Due.due("none of 2", stock(x, 2), 0);
        x.cut(1, 0, 0);
        x.cut(2, 0, 1);
        Due.due("1 is lower than 2", x.serve(0), 16);
        Due.due("1 is used up", stock(x, 1) * 100 + stock(x, 2), 11);
    }

    private static void pay() {
        Due.sentence("One pays 2 coins, a couple 5");
        int[] coins = {2, 2, 5};
        for (int want = 0; want <= 2; want++) {
            FoldedProfiles x = stallOfStrip("11111111l1", 4);
            x.come(0, want, 9);
            x.cut(0, 0, 1);
            Due.due("want " + want, x.serve(0), 9 + coins[want]);
            Due.due("are the coins", x.count(9), 9 + coins[want]);
            Due.due("stock", stock(x, 0), want == 0 ? 1 : want == 1 ? 10 : 0);
            Due.due("1 is served", x.count(7), 1);
        }
    }

    private static void anySitter() {
        Due.sentence("any sitter of the line can be served");
        for (int place = 0; place < 12; place++) {
            FoldedProfiles x = stallOfStrip("11111111l20", 6);
            for (int waiting = 1; waiting < 12; waiting++) {
                x.come(0, 0, 20 + waiting);
            }
            x.cut(0, 0, 0);
            Due.due("serve(" + place + ")", x.serve(place), 11);
            Due.due("11 wait", x.count(3), 11);
            for (int sitter = 0; sitter < 11; sitter++) {
                int was = sitter < place ? sitter : sitter + 1;
                Due.due("the others are in their order", x.sitter(sitter, 2), 19 + was);
            }
            Due.due("nobody is twelfth", x.sitter(11, 2), FoldedProfiles.UNKNOWN);
        }
    }

    private static void serveRefused() {
        Due.sentence("Returns the coins then; UNKNOWN; NOT_POSSIBLE if the stock has not what is wanted");
        FoldedProfiles x = stallOfStrip("11111111r99;11111111c99", 60);
        Due.due("serve(2)", x.serve(2), FoldedProfiles.UNKNOWN);
        Due.due("serve(-1)", x.serve(-1), FoldedProfiles.UNKNOWN);
        Due.due("nothing in stock", x.serve(0), FoldedProfiles.NOT_POSSIBLE);
        x.cut(0, 0, 0);
        x.cut(0, 0, 0);
        Due.due("two lefts for a right one", x.serve(0), FoldedProfiles.NOT_POSSIBLE);
        Due.due("two lefts for a couple", x.serve(1), FoldedProfiles.NOT_POSSIBLE);
        x.turn(0, true);
        x.turn(0, true);
        Due.due("two rights for a couple", x.serve(1), FoldedProfiles.NOT_POSSIBLE);
        x.come(0, 0, 9);
        Due.due("two rights for a left one", x.serve(2), FoldedProfiles.NOT_POSSIBLE);
        Due.due("two rights for a right one", x.serve(0), 8);
    }

    private static void serveAll() {
        Due.sentence("Returns how many are served; NONE if none is");
        FoldedProfiles x = new FoldedProfiles();
        Due.due("nobody waits", x.serveAll(), FoldedProfiles.NONE);
        x = stallOfStrip("11111111l99;22222222r99;11111111r99;22222222c99;11111111c99", 60);
        Due.due("nothing in stock", x.serveAll(), FoldedProfiles.NONE);
        x.cut(0, 0, 0);
        Due.due("the first alone", x.serveAll(), 1);
        Due.due("again", x.serveAll(), FoldedProfiles.NONE);
        x.cut(1, 0, 2);
        Due.due("told", x.ifCut(0, 0, 2, 4), 4);
        Due.due("two that are apart", x.serveAll(), 2);
        Due.due("the others wait", x.sitter(0, 1) * 10 + x.sitter(1, 1), 12);
        Due.due("both of the other profile", x.profile(0, 4), 2);
        Due.due("one of 22222222 is left", stock(x, 1), 10);
        FoldedProfiles twelve = stallOfStrip("11111111l99", 60);
        for (int waiting = 1; waiting < 12; waiting++) {
            twelve.come(0, waiting % 2, 99);
        }
        twelve.cut(0, 0, 3);
        twelve.cut(0, 0, 2);
        Due.due("all 12", twelve.serveAll(), 12);
        Due.due("nobody waits", twelve.count(3), 0);
        Due.due("nothing is left", twelve.count(5), 0);
        Due.due("12 pay 2", twelve.count(9), 6 + 24);
    }

    private static void serveAllFromTheHead() {
        Due.sentence("Serves all that can be served, from the head of the line on");
        FoldedProfiles x = stallOfStrip("11111111r99;11111111c99;11111111l99;11111111l98", 60);
        x.cut(0, 0, 1);
        Due.due("the right one, then the first left one", x.serveAll(), 2);
        Due.due("the couple waits", x.sitter(0, 1), 2);
        Due.due("and the second left one", x.sitter(1, 2), 96);
        FoldedProfiles y = stallOfStrip("11111111c99;11111111r99;11111111l99", 60);
        y.cut(0, 0, 1);
        Due.due("the couple at the head", y.serveAll(), 1);
        Due.due("the others wait", y.sitter(0, 1) * 10 + y.sitter(1, 1), 10);
    }

    private static void turning() {
        Due.sentence("it looks the other way then; this costs a tick");
        FoldedProfiles x = stallOfStrip("11111111l99;22222222l99", 60);
        x.cut(0, 0, 0);
        x.cut(1, 0, 2);
        Due.due("the only left one", x.turn(0, true), 1);
        Due.due("looks to the right", stock(x, 0), 1);
        Due.sentence("NOT_POSSIBLE if there is none that looks the other way");
        Due.due("no left one any more", x.turn(0, true), FoldedProfiles.NOT_POSSIBLE);
        Due.due("back", x.turn(0, false), 1);
        Due.due("no right one any more", x.turn(0, false), FoldedProfiles.NOT_POSSIBLE);
        Due.due("2 ticks behind the cuts", x.count(0), 6);
        Due.sentence("Returns how many of the profile look so then; UNKNOWN");
        Due.due("3 to the right", x.turn(1, true), 3);
        Due.due("4 to the right", x.turn(1, true), 4);
        Due.due("1 to the left", x.turn(1, false), 1);
        Due.due("the others are as they were", stock(x, 0), 10);
        Due.due("turn(2, true)", x.turn(2, true), FoldedProfiles.UNKNOWN);
        Due.due("turn(-1, false)", x.turn(-1, false), FoldedProfiles.UNKNOWN);
    }

    private static void toldOfAProfile() {
        Due.sentence("4 for sitters who want it (by its number), 5 for how many were cut so far");
        FoldedProfiles x = stallOfStrip("11111111l2;11111111c99", 60);
        x.draw(0, 0, 1);
        x.come(1, 1, 99);
        Due.due("2 want 0", x.profile(0, 4), 2);
        Due.due("1 wants 1", x.profile(1, 4), 1);
        x.cut(0, 0, 1);
        x.cut(0, 0, 0);
        Due.due("1 went", x.profile(0, 4), 1);
        Due.due("3 were cut", x.profile(0, 5), 3);
        Due.due("none of 1", x.profile(1, 5), 0);
        x.turn(0, true);
        Due.due("serveAll", x.serveAll(), 2);
        Due.due("3 were cut all the same", x.profile(0, 5), 3);
        Due.due("nobody wants 0", x.profile(0, 4), 0);
        Due.due("none is left", stock(x, 0), 0);
        Due.sentence("Returns the number; UNKNOWN; BAD_VALUE");
        Due.due("profile(0, 7)", x.profile(0, 7), FoldedProfiles.BAD_VALUE);
        Due.due("profile(0, -1)", x.profile(0, -1), FoldedProfiles.BAD_VALUE);
        Due.due("profile(2, 0)", x.profile(2, 0), FoldedProfiles.UNKNOWN);
        Due.due("profile(-1, 6)", x.profile(-1, 6), FoldedProfiles.UNKNOWN);
    }

    private static void toldOfASitter() {
        Due.sentence("3 for whether it can be served now (1, otherwise 0)");
        FoldedProfiles x = stallOfStrip("11111111l99;11111111r99;11111111c99", 60);
        canBeServed(x, 0, 0, 0);
        x.cut(0, 0, 0);
        canBeServed(x, 1, 0, 0);
        x.turn(0, true);
        canBeServed(x, 0, 1, 0);
        x.cut(0, 0, 0);
        canBeServed(x, 1, 1, 1);
        Due.due("sitter(0, 4)", x.sitter(0, 4), FoldedProfiles.BAD_VALUE);
        Due.due("sitter(0, -1)", x.sitter(0, -1), FoldedProfiles.BAD_VALUE);
        Due.due("sitter(3, 0)", x.sitter(3, 0), FoldedProfiles.UNKNOWN);
        Due.due("sitter(-1, 0)", x.sitter(-1, 0), FoldedProfiles.UNKNOWN);
    }

    private static void canBeServed(FoldedProfiles x, int... due) {
        for (int sitter = 0; sitter < due.length; sitter++) {
            Due.due("stock " + stock(x, 0) + ": sitter " + sitter, x.sitter(sitter, 3), due[sitter]);
        }
    }

    private static void ifCutGoing() {
        Due.sentence("3 for sitters that would go for want of patience");
        FoldedProfiles x = stallOfStrip("11111111l1;11111111r2;11111111c3;11111111l4;11111111l5", 60);
        for (int folds = 0; folds <= 3; folds++) {
            Due.due(folds + " folds", x.ifCut(0, 0, folds, 3), folds + 1);
        }
        Due.due("nobody went", x.count(8), 0);
        Due.due("5 wait", x.count(3), 5);
        x.cut(0, 0, 1);
        Due.due("2 went, and one more would", x.ifCut(0, 0, 0, 3), 1);
        FoldedProfiles none = stallOfStrip("11111111l9", 60);
        Due.due("nobody would go", none.ifCut(0, 0, 3, 3), 0);
    }

    private static void ifCutServing() {
        Due.sentence("4 for sitters that could be served one by one behind it, as for serveAll()");
        FoldedProfiles x = stallOfStrip("11111111c4;11111111l3;11111111r9;22222222l9", 60);
        int[] served = {1, 1, 2, 1};
        for (int folds = 0; folds <= 3; folds++) {
            Due.due(folds + " folds", x.ifCut(0, 0, folds, 4), served[folds]);
        }
        Due.due("for 22222222", x.ifCut(1, 0, 3, 4), 1);
        Due.due("nobody is served", x.count(7), 0);
        Due.due("nothing is cut", x.count(5) + x.count(6), 0);
        Due.due("serveAll has nothing", x.serveAll(), FoldedProfiles.NONE);
        x.cut(1, 0, 0);
        Due.due("what is in stock is counted too", x.ifCut(0, 0, 0, 4), 2);
        FoldedProfiles none = stallOfStrip("11111111l1", 60);
        Due.due("0 if none could be", none.ifCut(0, 0, 0, 4), 0);
    }

    private static void fewestFoldsOfWants() {
        Due.sentence("makes enough, with what is in stock, for all sitters that want a profile by its number");
        int none = FoldedProfiles.NONE;
        // want, how many want it, folds due
        int[][] rows = {{0, 1, 0}, {0, 2, 2}, {0, 3, 3}, {0, 4, 3}, {0, 5, none}, {1, 1, 1}, {1, 2, 2}, {1, 3, 3},
            {1, 4, 3}, {1, 5, none}, {2, 1, 1}, {2, 2, 2}, {2, 3, 3}, {2, 4, 3}, {2, 5, none}};
        for (int[] row : rows) {
            FoldedProfiles x = stallOfStrip("22222222l;11111111" + "lrc".charAt(row[0]), 60);
            for (int more = 1; more < row[1]; more++) {
                x.come(1, row[0], 99);
            }
            Due.due(row[1] + " want " + row[0], x.fewestFolds(1, 0), row[2]);
            Due.due("one wants the other", x.fewestFolds(0, 0), 0);
        }
        FoldedProfiles hasty = stallOfStrip("11111111l1;11111111r1", 60);
        Due.due("those that would go are counted too", hasty.fewestFolds(0, 0), 1);
        Due.sentence("each counted as what it wants, without turning");
        FoldedProfiles x = stallOfStrip("11111111l;11111111l;11111111c", 60);
        Due.due("3 lefts and a right", x.fewestFolds(0, 0), 3);
        x.cut(0, 0, 1);
        Due.due("1 and 1 in stock", x.fewestFolds(0, 0), 2);
        x.turn(0, true);
        Due.due("2 rights in stock", x.fewestFolds(0, 0), 3);
        x.turn(0, false);
        x.turn(0, false);
        Due.due("2 lefts in stock", x.fewestFolds(0, 0), 1);
    }

    private static void fewestFoldsOfStock() {
        Due.sentence("if nobody wants more than there is: 0, if that cut is possible");
        FoldedProfiles x = stallOfStrip("11111111c99;11111111l99", 10);
        x.cut(0, 0, 1);
        Due.due("a left one lacks", x.fewestFolds(0, 0), 0);
        x.cut(0, 0, 0);
        Due.due("just enough", x.fewestFolds(0, 0), 0);
        x.set(0, 4);
        Due.due("just enough, but it is too short", x.fewestFolds(0, 0), FoldedProfiles.NONE);
        x.set(0, 3);
        Due.due("just long enough", x.fewestFolds(0, 0), 0);
        x.serve(0);
        x.serve(0);
        Due.due("nobody wants any", x.fewestFolds(0, 0), 0);
        Due.due("a thick one", x.buy(10, 3), 1);
        x.set(2, 2);
        Due.due("nobody wants any, but it is too thick", x.fewestFolds(0, 1), FoldedProfiles.NONE);
        x.set(2, 3);
        Due.due("nobody wants any", x.fewestFolds(0, 1), 0);
    }

    private static void fewestFoldsByNumber() {
        Due.sentence("all sitters that want a profile by its number");
        FoldedProfiles x = stallOfStrip("11111111c99", 60);
        x.draw(0, 0, 1);
        x.come(1, 0, 99);
        Due.due("a couple wants 0", x.fewestFolds(0, 0), 1);
        Due.due("a left one wants 1", x.fewestFolds(1, 0), 0);
        x.cut(0, 0, 1);
        Due.due("0 has enough", x.fewestFolds(0, 0), 0);
        x.come(1, 1, 99);
        Due.due("which is no help for 1", x.fewestFolds(1, 0), 1);
        x.come(1, 0, 99);
        Due.due("nor is its left one", x.fewestFolds(1, 0), 2);
    }

    private static void fewestFoldsNotPossible() {
        Due.sentence("NONE if there are none, also if the cut is not possible");
        FoldedProfiles x = stallOfStrip("11111111r99;11111111r99", 8);
        Due.due("4 layers of 2 take 8", x.fewestFolds(0, 0), 2);
        x.set(2, 4);
        Due.due("just for the blade", x.fewestFolds(0, 0), 2);
        x.set(2, 3);
        Due.due("too thick", x.fewestFolds(0, 0), FoldedProfiles.NONE);
        x.set(2, 24);
        x.set(1, 1);
        Due.due("too short", x.fewestFolds(0, 0), FoldedProfiles.NONE);
        Due.sentence("Returns the folds, 0 to 3; UNKNOWN (profile or strip)");
        Due.due("fewestFolds(1, 0)", x.fewestFolds(1, 0), FoldedProfiles.UNKNOWN);
        Due.due("fewestFolds(-1, 0)", x.fewestFolds(-1, 0), FoldedProfiles.UNKNOWN);
        Due.due("fewestFolds(0, 1)", x.fewestFolds(0, 1), FoldedProfiles.UNKNOWN);
        Due.due("fewestFolds(0, -1)", x.fewestFolds(0, -1), FoldedProfiles.UNKNOWN);
    }
}
