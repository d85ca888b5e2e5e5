import java.util.List;

/** Promises 15 (undo), 16 (keep), 17 (restore), 26 (count), and what each act records. */
public final class HistoryTest {
    public static void main(String[] args) {
        undo();
        fourStates();
        whatIsRecorded();
        whatAStateHas();
        keep();
        restore();
        count();
        extremes();
        Due.end();
    }

    private static void undo() {
        FoldedProfiles x = new FoldedProfiles();
        Due.due("empty", x.undo(), FoldedProfiles.NONE);
        x.buy(20, 1);
        x.set(0, 5);
        Due.due("states", x.count(14), 2);
        Due.due("undo", x.undo(), 1);
        Due.due("margin", x.count(10), 1);
        Due.due("strips", x.count(2), 1);
        Due.due("undo", x.undo(), 0);
        Due.due("strips", x.count(2), 0);
        Due.due("coins", x.count(9), 10);
        Due.due("empty", x.undo(), FoldedProfiles.NONE);
        x.set(0, 7);
        Due.due("anew", x.count(14), 1);
        Due.due("undo", x.undo(), 0);
        Due.due("margin", x.count(10), 1);
    }

    private static void fourStates() {
        FoldedProfiles x = new FoldedProfiles();
        for (int value = 2; value <= 8; value++) {
            x.set(0, value);
            Due.due("states behind " + value, x.count(14), Math.min(4, value - 1));
        }
        for (int left = 3; left >= 0; left--) {
            Due.due("undo", x.undo(), left);
            Due.due("margin", x.count(10), 4 + left);
        }
        Due.due("the older ones were dropped", x.undo(), FoldedProfiles.NONE);
        x.set(0, 9);
        x.set(0, 8);
        Due.due("undo", x.undo(), 1);
        Due.due("margin", x.count(10), 9);
        Due.due("undo", x.undo(), 0);
        Due.due("margin", x.count(10), 4);
    }

    private static void whatIsRecorded() {
        FoldedProfiles x = new FoldedProfiles();
        recorded(x, "set", x.set(1, 1) == 0, true);
        recorded(x, "buy", x.buy(60, 1) == 0, true);
        recorded(x, "trade", x.trade(0, 2) == 58, true);
        recorded(x, "part", x.part(0, 50) == 1, true);
        Due.text(x, "11111111l;11111111c");
        recorded(x, "typing", true, false);
        recorded(x, "comeAll", x.comeAll() == 2, true);
        recorded(x, "draw", x.draw(0, 0, 1) == 1, true);
        recorded(x, "come", x.come(0, 1, 9) == 3, true);
        recorded(x, "cut", x.cut(0, 0, 2) == 4, true);
        recorded(x, "turn", x.turn(0, true) == 3, true);
        recorded(x, "serve", x.serve(1) == 9 + 2, true);
        recorded(x, "serveAll", x.serveAll() == 1, true);
        recorded(x, "serveAll of none", x.serveAll() == FoldedProfiles.NONE, false);
        recorded(x, "keep", x.keep() == 13, false);
        recorded(x, "restore", x.restore() == 13, true);
        recorded(x, "set as it is", x.set(1, 1) == FoldedProfiles.NONE, false);
        recorded(x, "an error", x.set(1, 9) == FoldedProfiles.BAD_VALUE, false);
        recorded(x, "clearText", x.clearText() == 19, false);
        recorded(x, "telling", x.ifCut(0, 0, 0, 4) >= 0 && x.bestStrip(0, 0) >= 0, false);
    }

    /** Checks the answer and the states, and makes room when the history is full. */
    private static void recorded(FoldedProfiles x, String call, boolean asDue, boolean isRecorded) {
        Due.due(call + " answers as is due", asDue ? 1 : 0, 1);
        if (!isRecorded) {
            Due.due(call + " records nothing", x.count(14), before);
            return;
        }
        before = Math.min(4, before + 1);
        Due.due(call + " records", x.count(14), before);
        if (before == 4) {
            // emptied by as many undo(), and the state brought back by restore()
            x.keep();
            x.undo();
            x.undo();
            x.undo();
            x.undo();
            x.restore();
            before = 1;
            Due.due(call + ": one state", x.count(14), 1);
        }
    }

    private static int before = 0;

    private static void whatAStateHas() {
        FoldedProfiles x = Due.stallWith("11111111l9;22222222r3;11111111c9");
        x.buy(50, 1);
        x.cut(0, 0, 2);
        x.turn(0, true);
        List<String> then = Seen.state(x);
        x.cut(1, 0, 2);
        x.cut(0, 0, 2);
        x.undo();
        x.undo();
        Due.same("undone cuts", Seen.state(x), then);
        Due.due("serveAll", x.serveAll(), 1);
        x.undo();
        Due.same("undone serving", Seen.state(x), then);
        Due.due("draw", x.draw(0, 4, 4), 2);
        Due.due("part", x.part(0, 17), 1);
        Due.due("trade", x.trade(0, 2), 15);
        x.undo();
        x.undo();
        x.undo();
        Due.same("undone strips", Seen.state(x), then);
        x.keep();
        x.cut(0, 0, 0);
        x.cut(1, 0, 1);
        x.set(0, 0);
        x.set(1, 2);
        x.set(2, 20);
        x.restore();
        Due.same("restored", Seen.state(x), then);
    }

    private static void keep() {
        FoldedProfiles x = new FoldedProfiles();
        Due.due("keep", x.keep(), 10);
        x.buy(40, 1);
        Due.due("keep, in place of the first", x.keep(), 7);
        Due.due("no act", x.count(14), 1);
        x.undo();
        Due.due("coins", x.count(9), 10);
        Due.due("undo leaves the snapshot", x.restore(), 7);
        Due.due("with the strip", x.strip(0, 0), 40);
    }

    private static void restore() {
        FoldedProfiles x = new FoldedProfiles();
        Due.due("no snapshot", x.restore(), FoldedProfiles.NONE);
        Due.due("nothing recorded", x.count(14), 0);
        x.keep();
        x.buy(40, 2);
        x.type('7');
        Due.due("restore", x.restore(), 10);
        Due.due("no strips", x.count(2), 0);
        Due.due("the text stays", x.count(15), 1);
        Due.due("the history grows", x.count(14), 2);
        Due.due("undo", x.undo(), 1);
        Due.due("the strip is there again", x.strip(0, 1), 2);
        Due.due("the snapshot stays", x.restore(), 10);
        Due.due("the snapshot stays", x.restore(), 10);
        Due.due("each is an act", x.count(14), 3);
    }

    private static void count() {
        FoldedProfiles x = Due.stallWith("11111111l;22222222r3;11111111c99");
        x.buy(50, 1);
        x.buy(7, 2);
        x.set(0, 2);
        x.set(1, 1);
        x.set(2, 9);
        x.cut(0, 0, 2);
        x.turn(0, false);
        x.serve(0);
        int[] due = {4, 2, 2, 1, 37, 3, 4, 1, 1, 7, 2, 1, 9, 20, 4, 32};
        for (int what = 0; what < due.length; what++) {
            Due.due("count(" + what + ")", x.count(what), due[what]);
        }
        Due.due("count(16)", x.count(16), FoldedProfiles.BAD_VALUE);
        Due.due("count(-1)", x.count(-1), FoldedProfiles.BAD_VALUE);
        Due.due("count(MAX)", x.count(Integer.MAX_VALUE), FoldedProfiles.BAD_VALUE);
        Due.due("count(MIN)", x.count(Integer.MIN_VALUE), FoldedProfiles.BAD_VALUE);
    }

    private static void extremes() {
        FoldedProfiles x = Due.stallWith("11111111l");
        x.buy(50, 1);
        int[] far = {Integer.MIN_VALUE, Integer.MAX_VALUE};
        for (int n : far) {
            Due.due("trade", x.trade(n, n), FoldedProfiles.UNKNOWN);
            Due.due("trade", x.trade(0, n), FoldedProfiles.BAD_VALUE);
            Due.due("part", x.part(n, n), FoldedProfiles.UNKNOWN);
            Due.due("part", x.part(0, n), FoldedProfiles.BAD_VALUE);
            Due.due("draw", x.draw(n, n, n), FoldedProfiles.UNKNOWN);
            Due.due("draw", x.draw(0, n, n), FoldedProfiles.UNKNOWN);
            Due.due("draw", x.draw(0, 0, n), FoldedProfiles.BAD_VALUE);
            Due.due("come", x.come(n, n, n), FoldedProfiles.UNKNOWN);
            Due.due("come", x.come(0, n, 1), FoldedProfiles.BAD_VALUE);
            Due.due("come", x.come(0, 0, n), FoldedProfiles.BAD_VALUE);
            Due.due("serve", x.serve(n), FoldedProfiles.UNKNOWN);
            Due.due("cut", x.cut(n, n, n), FoldedProfiles.UNKNOWN);
            Due.due("cut", x.cut(0, 0, n), FoldedProfiles.BAD_VALUE);
            Due.due("turn", x.turn(n, true), FoldedProfiles.UNKNOWN);
            Due.due("set", x.set(n, n), FoldedProfiles.UNKNOWN);
            Due.due("profile", x.profile(n, n), FoldedProfiles.UNKNOWN);
            Due.due("layerWidth", x.layerWidth(0, 0, n), FoldedProfiles.BAD_VALUE);
            Due.due("strip", x.strip(n, n), FoldedProfiles.UNKNOWN);
            Due.due("sitter", x.sitter(n, n), FoldedProfiles.UNKNOWN);
            Due.due("ifCut", x.ifCut(0, 0, n, n), FoldedProfiles.BAD_VALUE);
            Due.due("bestStrip", x.bestStrip(n, n), FoldedProfiles.UNKNOWN);
            Due.due("bestStrip", x.bestStrip(0, n), FoldedProfiles.BAD_VALUE);
            Due.due("fewestFolds", x.fewestFolds(n, n), FoldedProfiles.UNKNOWN);
        }
    }
}
