import java.util.List;

/** Boundary cases, sentence by sentence: the history, the snapshot, a state, a new object, and its 512 calls. */
public final class EdgeHistoryTest {
    private static final String ENTRIES = "11111111l99;22222222c99";

    public static void main(String[] args) {
        newObject();
        fourStates();
        latestState();
        acts();
        noActs();
        refusedActs();
        oneActEach();
        actsThatChangeNothing();
        oneSnapshot();
        snapshotStays();
        restoreIsAnAct();
        whatAStateIs();
        restoredAndUndone();
        countsOfEverything();
        allCalls();
        laterCalls();
        Due.end();
    }

    /** A stall in which each act can be done: 6 calls and the typing. */
    private static void ready(FoldedProfiles x) {
        for (int i = 0; i < ENTRIES.length(); i++) {
            x.type(ENTRIES.charAt(i));
        }
        x.comeAll();
        x.buy(80, 1);
        x.cut(0, 0, 1);
        x.keep();
    }

    private static FoldedProfiles readyStall() {
        FoldedProfiles x = new FoldedProfiles();
        ready(x);
        return x;
    }

    private static void newObject() {
        Due.sentence("Creates a stall without profiles, strips and sitters, with 10 coins");
        FoldedProfiles x = new FoldedProfiles();
        int[] due = {0, 0, 0, 0, 0, 0, 0, 0, 0, 10, 1, 0, 8, 0, 0, 0};
        for (int what = 0; what <= 15; what++) {
            Due.due("count(" + what + ")", x.count(what), due[what]);
        }
        Due.due("no profile", x.width(0, 0), FoldedProfiles.UNKNOWN);
        Due.due("no strip", x.strip(0, 0), FoldedProfiles.UNKNOWN);
        Due.due("no sitter", x.sitter(0, 0), FoldedProfiles.UNKNOWN);
        Due.due("no history", x.undo(), FoldedProfiles.NONE);
        Due.due("no snapshot", x.restore(), FoldedProfiles.NONE);
        FoldedProfiles other = readyStall();
        Due.due("another stall", other.count(3), 2);
        Due.due("is another one", x.count(3), 0);
    }

    private static void fourStates() {
        Due.sentence("A history of at most 4 states is kept; when one more is recorded, the oldest one is dropped");
        for (int acts = 0; acts <= 10; acts++) {
            FoldedProfiles x = new FoldedProfiles();
            // the margin is 1 at first, then 0, 2, 0, 2 ..
            for (int act = 1; act <= acts; act++) {
                x.set(0, act % 2 == 1 ? 0 : 2);
                x.set(0, x.count(10));
            }
            int kept = Math.min(4, acts);
            Due.due(acts + " acts", x.count(14), kept);
            for (int left = kept - 1; left >= 0; left--) {
                int at = acts - kept + left;
                Due.due(acts + " acts, undo", x.undo(), left);
                Due.due("the margin", x.count(10), at == 0 ? 1 : at % 2 == 1 ? 0 : 2);
                Due.due("states", x.count(14), left);
            }
            Due.sentence("NONE if the history is empty");
            Due.due(acts + " acts, undone", x.undo(), FoldedProfiles.NONE);
            Due.due("again", x.undo(), FoldedProfiles.NONE);
            Due.sentence("when one more is recorded, the oldest one is dropped");
        }
    }

    private static void latestState() {
        Due.sentence("undo() removes and restores the latest one");
        FoldedProfiles x = new FoldedProfiles();
        for (int margin = 2; margin <= 7; margin++) {
            x.set(0, margin);
        }
        Due.due("undo", x.undo(), 3);
        Due.due("undo", x.undo(), 2);
        Due.due("the margin", x.count(10), 5);
        x.set(1, 1);
        x.set(1, 2);
        x.set(1, 3);
        Due.due("4 again", x.count(14), 4);
        Due.due("undo", x.undo(), 3);
        Due.due("undo", x.undo(), 2);
        Due.due("undo", x.undo(), 1);
        Due.due("behind them", x.count(10) * 10 + x.count(11), 50);
        Due.due("undo", x.undo(), 0);
        Due.due("what was before them", x.count(10), 4);
        Due.due("the first ones were dropped", x.undo(), FoldedProfiles.NONE);
    }

    private static void act(String name, int due, Twins.Call call) {
        FoldedProfiles x = readyStall();
        List<String> before = Seen.all(readyStall());
        Due.due(name, call.on(x), due);
        Due.due(name + " records", x.count(14), 4);
        Due.due(name + ": undo", x.undo(), 3);
        Due.same(name + " undone", Seen.all(x), before);
    }

    private static void acts() {
        Due.sentence("Each call of a method that is described as an act, and returns no error and not NONE, records the state");
        act("buy", 1, x -> x.buy(1, 1));
        act("trade", 74, x -> x.trade(0, 2));
        act("part", 1, x -> x.part(0, 1));
        act("draw", 2, x -> x.draw(0, 0, 2));
        act("come", 3, x -> x.come(0, 0, 1));
        act("comeAll", 4, x -> x.comeAll());
        act("serve", 7, x -> x.serve(0));
        act("serveAll", 1, x -> x.serveAll());
        act("cut", 8, x -> x.cut(0, 0, 3));
        act("turn", 2, x -> x.turn(0, true));
        act("set 0", 1, x -> x.set(0, 9));
        act("set 1", 0, x -> x.set(1, 3));
        act("set 2", 8, x -> x.set(2, 1));
        act("restore", 5, x -> x.restore());
    }

    private static void noAct(String name, int due, Twins.Call call) {
        FoldedProfiles x = readyStall();
        Due.due(name, call.on(x), due);
        Due.due(name + " records nothing", x.count(14), 3);
    }

    private static void noActs() {
        Due.sentence("a method that is described as an act");
        noAct("type", 24, x -> x.type(';'));
        noAct("clearText", 23, x -> x.clearText());
        noAct("keep", 5, x -> x.keep());
        noAct("width", 1, x -> x.width(0, 0));
        noAct("profile", 8, x -> x.profile(0, 1));
        noAct("layerWidth", 2, x -> x.layerWidth(1, 7, 7));
        noAct("strip", 76, x -> x.strip(0, 0));
        noAct("sitter", 1, x -> x.sitter(0, 3));
        noAct("ifCut", 1, x -> x.ifCut(0, 0, 1, 4));
        noAct("bestStrip", 0, x -> x.bestStrip(0, 0));
        noAct("fewestFolds", 0, x -> x.fewestFolds(0, 0));
        noAct("count", 5, x -> x.count(9));
        FoldedProfiles x = readyStall();
        Due.due("undo records nothing", x.undo(), 2);
        Due.due("nor does it here", x.count(14), 2);
    }

    private static void refusedActs() {
        Due.sentence("and returns no error and not NONE, records the state");
        noAct("buy", FoldedProfiles.NOT_POSSIBLE, x -> x.buy(100, 1));
        noAct("trade", FoldedProfiles.NOT_POSSIBLE, x -> x.trade(0, 1));
        noAct("part", FoldedProfiles.NOT_POSSIBLE, x -> x.part(0, 76));
        noAct("draw", FoldedProfiles.BAD_VALUE, x -> x.draw(0, 0, 10));
        noAct("come", FoldedProfiles.BAD_VALUE, x -> x.come(0, 0, 100));
        noAct("serve", FoldedProfiles.NOT_POSSIBLE, x -> x.serve(1));
        noAct("turn", FoldedProfiles.NOT_POSSIBLE, x -> x.turn(1, true));
        noAct("set", FoldedProfiles.NONE, x -> x.set(0, 1));
        FoldedProfiles x = readyStall();
        x.set(2, 1);
        Due.due("a cut that is too thick", x.cut(0, 0, 1), -11);
        Due.due("undo", x.undo(), 3);
        Due.due("is of the setting", x.count(12), 8);
        x.set(0, 9);
        Due.due("a cut that is too short", x.cut(0, 0, 3), -12);
        Due.due("undo", x.undo(), 3);
        Due.due("is of the setting", x.count(10), 1);
        FoldedProfiles y = readyStall();
        y.type('0');
        Due.due("comeAll", y.comeAll(), -123);
        Due.due("records nothing", y.count(14), 3);
        Due.due("serveAll", y.serveAll(), 1);
        Due.due("serveAll of none", y.serveAll(), FoldedProfiles.NONE);
        Due.due("records nothing", y.count(14), 4);
        Due.due("undo of the first", y.undo(), 3);
        Due.due("2 wait", y.count(3), 2);
        FoldedProfiles z = new FoldedProfiles();
        Due.due("restore", z.restore(), FoldedProfiles.NONE);
        Due.due("records nothing", z.count(14), 0);
    }

    private static void oneActEach() {
        Due.sentence("This is one act");
        FoldedProfiles x = Due.stallWith("11111111l99;11111111r99;11111111c99");
        Due.due("3 come in one", x.count(14), 1);
        x.buy(60, 1);
        x.cut(0, 0, 2);
        Due.due("all are served", x.serveAll(), 3);
        Due.due("in one", x.undo(), 3);
        Due.due("3 wait", x.count(3), 3);
        Due.due("4 are in stock", x.count(5), 4);
        Due.due("coins", x.count(9), 6);
        Due.due("none is served", x.count(7), 0);
    }

    private static void actsThatChangeNothing() {
        Due.sentence("Each call of a method that is described as an act, and returns no error and not NONE");
        FoldedProfiles x = new FoldedProfiles();
        x.keep();
        Due.due("restore of what is", x.restore(), 10);
        Due.due("is recorded", x.count(14), 1);
        Due.due("restore of what is", x.restore(), 10);
        Due.due("is recorded", x.count(14), 2);
        Due.due("undo", x.undo(), 1);
    }

    private static void oneSnapshot() {
        Due.sentence("There is one snapshot, empty at first");
        FoldedProfiles x = new FoldedProfiles();
        Due.due("empty", x.restore(), FoldedProfiles.NONE);
        x.buy(1, 3);
        Due.due("empty all the same", x.restore(), FoldedProfiles.NONE);
        Due.sentence("Takes a snapshot of the state, in place of the one that was");
        Due.due("keep", x.keep(), 7);
        x.buy(1, 3);
        Due.due("restore", x.restore(), 7);
        x.buy(1, 2);
        Due.due("keep", x.keep(), 5);
        x.buy(1, 1);
        Due.due("restore", x.restore(), 5);
        Due.due("2 strips", x.count(2), 2);
        x.undo();
        x.undo();
        x.undo();
        Due.due("the later one", x.restore(), 5);
        FoldedProfiles y = new FoldedProfiles();
        Due.due("keep of a new stall", y.keep(), 10);
        Due.due("it is one to restore", y.restore(), 10);
    }

    private static void snapshotStays() {
        Due.sentence("Restores the state of the snapshot, which stays");
        FoldedProfiles x = readyStall();
        for (int time = 0; time < 6; time++) {
            x.set(0, 2 + time);
            x.cut(0, 0, 0);
            Due.due("restore", x.restore(), 5);
            Due.due("the margin", x.count(10), 1);
            Due.due("the strip", x.strip(0, 0), 76);
        }
        Due.due("undo does not change it", x.undo(), 3);
        Due.due("nor does a second", x.undo(), 2);
        Due.due("restore", x.restore(), 5);
        Due.due("the margin", x.count(10), 1);
        Due.due("2 in stock", x.count(5), 2);
    }

    private static void restoreIsAnAct() {
        Due.sentence("This is an act");
        FoldedProfiles x = readyStall();
        x.set(0, 5);
        x.set(0, 6);
        Due.due("full", x.count(14), 4);
        Due.due("restore", x.restore(), 5);
        Due.due("the oldest is dropped", x.count(14), 4);
        Due.due("the margin", x.count(10), 1);
        Due.due("undo", x.undo(), 3);
        Due.due("the margin", x.count(10), 6);
        Due.due("undo", x.undo(), 2);
        Due.due("the margin", x.count(10), 5);
    }

    private static void whatAStateIs() {
        Due.sentence("A state is everything but the text, the history and the snapshot");
        FoldedProfiles x = readyStall();
        x.set(1, 1);
        x.type(';');
        Due.due("undo", x.undo(), 3);
        Due.due("the text is as it was", x.count(15), 24);
        x.clearText();
        Due.due("undo", x.undo(), 2);
        Due.due("the text is as it was", x.count(15), 0);
        Due.due("the fault is its own", x.comeAll(), -100);
        x.type('7');
        Due.due("restore", x.restore(), 5);
        Due.due("the text is as it was", x.count(15), 1);
        Due.due("the history is not restored", x.count(14), 3);
        x.keep();
        x.clearText();
        x.restore();
        Due.due("the text is no part of a snapshot", x.count(15), 0);
        x.set(0, 4);
        x.keep();
        x.undo();
        Due.due("undo leaves the snapshot", x.count(10), 1);
        x.restore();
        Due.due("as it was", x.count(10), 4);
    }

    private static void restoredAndUndone() {
        Due.sentence("undo() removes and restores the latest one");
        List<String> before = Seen.state(readyStall());
        FoldedProfiles x = readyStall();
        changeMuch(x);
        x.restore();
        Due.same("restored", Seen.state(x), before);
        FoldedProfiles y = readyStall();
        y.cut(1, 0, 1);
        y.serveAll();
        y.turn(0, false);
        y.comeAll();
        y.undo();
        y.undo();
        y.undo();
        y.undo();
        Due.same("undone", Seen.state(y), before);
    }

    private static void changeMuch(FoldedProfiles x) {
        x.set(0, 0);
        x.set(1, 3);
        x.set(2, 24);
        x.buy(1, 2);
        x.trade(0, 3);
        x.part(0, 30);
        x.draw(0, 0, 9);
        x.come(2, 1, 3);
        x.serve(0);
        x.cut(2, 0, 1);
        x.cut(1, 2, 1);
        x.turn(0, false);
        x.serveAll();
        x.comeAll();
    }

    private static void countsOfEverything() {
        Due.sentence("Returns the number; BAD_VALUE");
        FoldedProfiles x = readyStall();
        x.come(1, 0, 3);
        x.cut(1, 0, 2);
        x.serve(0);
        x.set(0, 2);
        x.set(1, 1);
        x.set(2, 9);
        int[] due = {5, 2, 1, 1, 64, 5, 6, 1, 1, 7, 2, 1, 9, 16, 4, 23};
        for (int what = 0; what <= 15; what++) {
            Due.due("count(" + what + ")", x.count(what), due[what]);
        }
        Due.due("count(16)", x.count(16), FoldedProfiles.BAD_VALUE);
        Due.due("count(-1)", x.count(-1), FoldedProfiles.BAD_VALUE);
        Due.sentence("4 for the length of all strips, 13 for length that was cut so far");
        FoldedProfiles y = Due.stallWith("11111111l");
        y.buy(30, 1);
        y.part(0, 11);
        y.trade(0, 2);
        Due.due("parting and trading cut no length", y.count(13), 0);
        Due.due("all strips", y.count(4), 28);
        y.cut(0, 1, 0);
        y.cut(0, 0, 1);
        Due.due("both cuts", y.count(13), 6);
        Due.due("all strips", y.count(4), 22);
    }

    private static void allCalls() {
        Due.sentence("An object is used for at most 512 calls after it has been made");
        FoldedProfiles x = new FoldedProfiles();
        for (int call = 1; call <= 508; call++) {
            Due.due("call " + call, x.set(0, call % 2 == 1 ? 9 : 1), call % 2 == 1 ? 1 : 9);
        }
        Due.due("call 509", x.count(14), 4);
        Due.due("call 510", x.undo(), 3);
        Due.due("call 511", x.count(10), 9);
        Due.due("call 512", x.buy(20, 2), 0);
    }

    private static void laterCalls() {
        Due.sentence("what later calls answer is free");
        FoldedProfiles x = readyStall();
        int[] some = {Integer.MIN_VALUE, -1, 0, 1, 2, 3, 5, 9, 12, 200, Integer.MAX_VALUE};
        int calls = 0;
        for (int a : some) {
            for (int b : some) {
                for (int c : some) {
                    later(x, a, b, c);
                    calls += 25;
                }
            }
        }
        Due.due("none of them threw", calls, 25 * 11 * 11 * 11);
    }

    private static void later(FoldedProfiles x, int a, int b, int c) {
        x.buy(a, b);
        x.trade(a, b);
        x.part(a, b);
        x.draw(a, b, c);
        x.come(a, b, c);
        x.comeAll();
        x.serve(a);
        x.cut(a, b, c);
        x.serveAll();
        x.turn(a, b > 0);
        x.set(a, b);
        x.type((char) a);
        x.undo();
        x.keep();
        x.restore();
        x.width(a, b);
        x.profile(a, b);
        x.layerWidth(a, b, c);
        x.strip(a, b);
        x.sitter(a, b);
        x.ifCut(a, b, c, c);
        x.bestStrip(a, b);
        x.fewestFolds(a, b);
        x.count(a);
        x.clearText();
    }
}
