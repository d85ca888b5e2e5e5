/** Promises 5 (draw), 6 (come), 8 (serve), 9 (serveAll), 18 (width), 19 (profile), 22 (sitter). */
public final class SittersTest {
    public static void main(String[] args) {
        draw();
        come();
        serve();
        serveByAlikes();
        coupleOfOneNumber();
        serveAll();
        serveAllFromTheHead();
        serveOfTwelve();
        stockOfTenProfiles();
        width();
        profile();
        sitter();
        Due.end();
    }

    private static void draw() {
        FoldedProfiles x = Due.stallWith("12345678l");
        Due.due("draw(1, 0, 0)", x.draw(1, 0, 0), FoldedProfiles.UNKNOWN);
        Due.due("draw(-1, 0, 1)", x.draw(-1, 0, 1), FoldedProfiles.UNKNOWN);
        Due.due("draw(0, 8, 0)", x.draw(0, 8, 0), FoldedProfiles.UNKNOWN);
        Due.due("draw(0, -1, 1)", x.draw(0, -1, 1), FoldedProfiles.UNKNOWN);
        Due.due("draw(0, 0, 0)", x.draw(0, 0, 0), FoldedProfiles.BAD_VALUE);
        Due.due("draw(0, 0, 10)", x.draw(0, 0, 10), FoldedProfiles.BAD_VALUE);
        Due.due("only comeAll was recorded", x.count(14), 1);
        Due.due("draw(0, 7, 9)", x.draw(0, 7, 9), 1);
        Due.due("its widths", widths(x, 1), 12345679);
        Due.due("those of the other", widths(x, 0), 12345678);
        Due.due("draw(1, 0, 9)", x.draw(1, 0, 9), 2);
        Due.due("its widths", widths(x, 2), 92345679);
        Due.due("an alike one", x.draw(0, 0, 1), 3);
        Due.due("is kept", x.count(1), 4);
        for (int number = 4; number < 10; number++) {
            Due.due("draw " + number, x.draw(0, 3, 1), number);
        }
        Due.due("an eleventh", x.draw(0, 0, 1), FoldedProfiles.FULL);
        Due.due("BAD_VALUE before FULL", x.draw(0, 0, 0), FoldedProfiles.BAD_VALUE);
        Due.due("UNKNOWN before FULL", x.draw(10, 0, 1), FoldedProfiles.UNKNOWN);
        Due.due("no time", x.count(0), 0);
        Due.due("no stock with a drawn one", x.count(5), 0);
    }

    private static int widths(FoldedProfiles x, int profile) {
        int all = 0;
        for (int step = 0; step < 8; step++) {
            all = all * 10 + x.width(profile, step);
        }
        return all;
    }

    private static void come() {
        FoldedProfiles x = Due.stallWith("12345678l");
        Due.due("come(1, 3, 0)", x.come(1, 3, 0), FoldedProfiles.UNKNOWN);
        Due.due("come(-1, 0, 1)", x.come(-1, 0, 1), FoldedProfiles.UNKNOWN);
        Due.due("come(0, 3, 1)", x.come(0, 3, 1), FoldedProfiles.BAD_VALUE);
        Due.due("come(0, -1, 1)", x.come(0, -1, 1), FoldedProfiles.BAD_VALUE);
        Due.due("come(0, 0, 0)", x.come(0, 0, 0), FoldedProfiles.BAD_VALUE);
        Due.due("come(0, 0, 100)", x.come(0, 0, 100), FoldedProfiles.BAD_VALUE);
        Due.due("come(0, 2, 99)", x.come(0, 2, 99), 2);
        Due.due("come(0, 1, 1)", x.come(0, 1, 1), 3);
        Due.due("wants", x.sitter(0, 1) * 100 + x.sitter(1, 1) * 10 + x.sitter(2, 1), 21);
        Due.due("patience", x.sitter(1, 2), 99);
        Due.due("patience", x.sitter(2, 2), 1);
        for (int waiting = 4; waiting <= 12; waiting++) {
            Due.due("come " + waiting, x.come(0, 0, 5), waiting);
        }
        Due.due("a thirteenth", x.come(0, 0, 5), FoldedProfiles.FULL);
        Due.due("BAD_VALUE before FULL", x.come(0, 3, 5), FoldedProfiles.BAD_VALUE);
        Due.due("UNKNOWN before FULL", x.come(1, 0, 5), FoldedProfiles.UNKNOWN);
        Due.due("12 wait", x.count(3), 12);
    }

    private static void serve() {
        FoldedProfiles x = Due.stallWith("11111111l;11111111r;11111111c");
        x.buy(100, 1);
        Due.due("serve(0) of nothing", x.serve(0), FoldedProfiles.NOT_POSSIBLE);
        Due.due("serve(3)", x.serve(3), FoldedProfiles.UNKNOWN);
        Due.due("serve(-1)", x.serve(-1), FoldedProfiles.UNKNOWN);
        x.cut(0, 0, 0);
        Due.due("a right one of lefts", x.serve(1), FoldedProfiles.NOT_POSSIBLE);
        Due.due("a couple of lefts", x.serve(2), FoldedProfiles.NOT_POSSIBLE);
        Due.due("recorded so far", x.count(14), 3);
        Due.due("a left one pays 2", x.serve(0), 6);
        Due.due("recorded", x.count(14), 4);
        Due.due("2 wait", x.count(3), 2);
        Due.due("the next moved up", x.sitter(0, 1), 1);
        Due.due("stock is gone", x.count(5), 0);
        x.cut(0, 0, 2);
        int clock = x.count(0);
        Due.due("a couple pays 5", x.serve(1), 11);
        Due.due("stock of a couple", x.profile(0, 2) * 10 + x.profile(0, 3), 11);
        Due.due("a right one pays 2", x.serve(0), 13);
        Due.due("stock of a right one", x.profile(0, 2) * 10 + x.profile(0, 3), 10);
        Due.due("no time", x.count(0), clock);
        Due.due("served", x.count(7), 3);
        Due.due("none went", x.count(8), 0);
        Due.due("serve(0) of nobody", x.serve(0), FoldedProfiles.UNKNOWN);
    }

    private static void serveByAlikes() {
        // 0 and 2 are alike, 1 is another one
        FoldedProfiles x = Due.stallWith("11111111l");
        x.draw(0, 0, 2);
        x.draw(0, 0, 1);
        x.come(2, 0, 50);
        x.come(1, 0, 50);
        x.buy(100, 1);
        x.cut(2, 0, 0);
        x.cut(0, 0, 0);
        Due.due("another one is not alike", x.sitter(2, 3), 0);
        Due.due("that other one", x.serve(2), FoldedProfiles.NOT_POSSIBLE);
        Due.due("serve(1) that wants 2", x.serve(1), 6);
        Due.due("the lowest number is taken", x.profile(0, 2) * 10 + x.profile(2, 2), 1);
        Due.due("serve(0) that wants 0", x.serve(0), 8);
        Due.due("by 2", x.profile(2, 2), 0);
    }

    private static void coupleOfOneNumber() {
        FoldedProfiles x = Due.stallWith("11111111c");
        x.draw(0, 0, 1);
        x.buy(100, 1);
        x.cut(0, 0, 0);
        x.cut(1, 0, 0);
        x.turn(1, true);
        Due.due("a left of 0 and a right of 1", x.sitter(0, 3), 0);
        Due.due("are no couple", x.serve(0), FoldedProfiles.NOT_POSSIBLE);
        Due.due("nor for all", x.serveAll(), FoldedProfiles.NONE);
        x.cut(1, 0, 0);
        Due.due("both of 1", x.serve(0), 9);
        Due.due("are taken", x.profile(0, 2) * 100 + x.profile(1, 2) * 10 + x.profile(1, 3), 100);
    }

    private static void serveAll() {
        FoldedProfiles x = Due.stallWith("11111111r;11111111l;22222222c;11111111c;22222222l;11111111l");
        x.buy(100, 1);
        Due.due("none", x.serveAll(), FoldedProfiles.NONE);
        Due.due("is not recorded", x.count(14), 2);
        x.cut(0, 0, 1);
        x.cut(1, 0, 1);
        Due.due("serveAll", x.serveAll(), 3);
        Due.due("one act", x.count(14), 4);
        Due.due("coins 4 + 2 + 2 + 5", x.count(9), 13);
        Due.due("served", x.count(7), 3);
        Due.due("wait", x.count(3), 3);
        Due.due("first", x.sitter(0, 0) * 10 + x.sitter(0, 1), 2);
        Due.due("second", x.sitter(1, 0) * 10 + x.sitter(1, 1), 10);
        Due.due("third", x.sitter(2, 0) * 10 + x.sitter(2, 1), 0);
        Due.due("stock", x.count(5), 0);
        Due.due("undo", x.undo(), 3);
        Due.due("all wait again", x.count(3), 6);
        Due.due("with the stock", x.count(5), 4);
        Due.due("and the coins", x.count(9), 4);
    }

    private static void serveAllFromTheHead() {
        // the left one at the head takes what the couple behind it would need
        FoldedProfiles x = Due.stallWith("11111111l;11111111c;11111111r");
        x.buy(100, 1);
        x.cut(0, 0, 1);
        Due.due("serveAll", x.serveAll(), 2);
        Due.due("the couple waits", x.sitter(0, 1), 2);
        Due.due("alone", x.count(3), 1);
    }

    private static void serveOfTwelve() {
        FoldedProfiles x = Due.stallWith("11111111l");
        for (int waiting = 2; waiting <= 12; waiting++) {
            x.come(0, 0, 20 + waiting);
        }
        x.buy(50, 1);
        x.cut(0, 0, 2);
        Due.due("serve(0) of 12", x.serve(0), 9);
        Due.due("the head then", x.sitter(0, 2), 19);
        Due.due("the last then", x.sitter(10, 2), 29);
        Due.due("no twelfth", x.sitter(11, 2), FoldedProfiles.UNKNOWN);
        Due.due("serve(10) of 11", x.serve(10), 11);
        Due.due("the last then", x.sitter(9, 2), 28);
    }

    private static void stockOfTenProfiles() {
        FoldedProfiles x = Due.stallWith("11111111l");
        for (int number = 1; number < 10; number++) {
            x.draw(0, 7, number);
        }
        x.buy(40, 1);
        Due.due("none of 10", x.sitter(0, 3), 0);
        Due.due("for all", x.serveAll(), FoldedProfiles.NONE);
        x.cut(9, 0, 1);
        Due.due("cut so far", x.count(6), 2);
        Due.due("in stock", x.count(5), 2);
        Due.due("the last is another one", x.serve(0), FoldedProfiles.NOT_POSSIBLE);
        x.come(9, 2, 9);
        Due.due("but serves one that wants it", x.serve(1), 12);
    }

    private static void width() {
        FoldedProfiles x = Due.stallWith("12345678l;98765432r");
        Due.due("widths of 0", widths(x, 0), 12345678);
        Due.due("widths of 1", widths(x, 1), 98765432);
        Due.due("width(2, 0)", x.width(2, 0), FoldedProfiles.UNKNOWN);
        Due.due("width(-1, 0)", x.width(-1, 0), FoldedProfiles.UNKNOWN);
        Due.due("width(0, 8)", x.width(0, 8), FoldedProfiles.UNKNOWN);
        Due.due("width(0, -1)", x.width(0, -1), FoldedProfiles.UNKNOWN);
        Due.due("width(MAX, MAX)", x.width(Integer.MAX_VALUE, Integer.MAX_VALUE), FoldedProfiles.UNKNOWN);
        Due.due("width(MIN, MIN)", x.width(Integer.MIN_VALUE, Integer.MIN_VALUE), FoldedProfiles.UNKNOWN);
    }

    private static void profile() {
        FoldedProfiles x = Due.stallWith("13141511l;13141511c;22222222l");
        x.draw(0, 5, 5);
        x.come(2, 0, 9);
        x.buy(100, 1);
        x.cut(0, 0, 1);
        x.cut(0, 0, 0);
        x.serve(0);
        Due.due("greatest width", x.profile(0, 0), 5);
        Due.due("sum", x.profile(0, 1), 17);
        Due.due("lefts", x.profile(0, 2), 1);
        Due.due("rights", x.profile(0, 3), 1);
        Due.due("sitters by its number", x.profile(0, 4), 1);
        Due.due("sitters by its number", x.profile(1, 4), 1);
        Due.due("sitters by its number", x.profile(2, 4), 1);
        Due.due("cut so far", x.profile(0, 5), 3);
        Due.due("cut so far", x.profile(1, 5), 0);
        Due.due("lowest alike: itself", x.profile(0, 6), 0);
        Due.due("lowest alike: itself", x.profile(1, 6), 1);
        Due.due("lowest alike", x.profile(2, 6), 0);
        Due.due("profile(3, 0)", x.profile(3, 0), FoldedProfiles.UNKNOWN);
        Due.due("profile(-1, 0)", x.profile(-1, 0), FoldedProfiles.UNKNOWN);
        Due.due("profile(3, 7)", x.profile(3, 7), FoldedProfiles.UNKNOWN);
        Due.due("profile(0, 7)", x.profile(0, 7), FoldedProfiles.BAD_VALUE);
        Due.due("profile(0, -1)", x.profile(0, -1), FoldedProfiles.BAD_VALUE);
    }

    private static void sitter() {
        FoldedProfiles x = Due.stallWith("11111111l;22222222r7;11111111c99");
        int[][] rows = {{0, 0, 20, 0}, {1, 1, 7, 0}, {0, 2, 99, 0}};
        for (int place = 0; place < 3; place++) {
            for (int what = 0; what < 4; what++) {
                Due.due("sitter(" + place + ", " + what + ")", x.sitter(place, what), rows[place][what]);
            }
        }
        x.buy(100, 1);
        x.cut(0, 0, 1);
        Due.due("left can be served", x.sitter(0, 3), 1);
        Due.due("another one can't", x.sitter(1, 3), 0);
        Due.due("couple can be served", x.sitter(2, 3), 1);
        Due.due("patience", x.sitter(0, 2), 18);
        Due.due("sitter(3, 0)", x.sitter(3, 0), FoldedProfiles.UNKNOWN);
        Due.due("sitter(-1, 0)", x.sitter(-1, 0), FoldedProfiles.UNKNOWN);
        Due.due("sitter(3, 4)", x.sitter(3, 4), FoldedProfiles.UNKNOWN);
        Due.due("sitter(0, 4)", x.sitter(0, 4), FoldedProfiles.BAD_VALUE);
        Due.due("sitter(0, -1)", x.sitter(0, -1), FoldedProfiles.BAD_VALUE);
    }
}
