/** All promises: long runs of drawn calls, the same each time, are answered as by Model. */
public final class ModelTest {
    private static final int RUNS = 4000;
    private static final int CALLS = 512;
    private static final int LONGEST_TYPING = 120;
    private static final String[] NAMES = {"buy", "trade", "part", "draw", "come", "comeAll", "serve", "serveAll",
        "cut", "turn", "set", "type", "clearText", "undo", "keep", "restore", "width", "profile", "layerWidth",
        "strip", "sitter", "ifCut", "bestStrip", "fewestFolds", "count"};
    // how often each is drawn, in the order of the names
    private static final int[] SHARES = {9, 3, 5, 4, 10, 4, 8, 3, 12, 5, 6, 4, 1, 4, 1, 2, 1, 5, 1, 3, 4, 8, 5, 6, 8};
    private static final int[] FAR = {Integer.MIN_VALUE, Integer.MAX_VALUE, -1, 1000, -101};

    private static long seed = 20261119;
    private static final int[] good = new int[NAMES.length];

    public static void main(String[] args) {
        for (int run = 0; run < RUNS; run++) {
            compare(run);
        }
        for (int which = 0; which < NAMES.length; which++) {
            // runs that met nothing but errors would compare nothing
            Due.due(NAMES[which] + " was often answered without an error", good[which] > RUNS ? 1 : 0, 1);
        }
        Due.end();
    }

    private static int draw(int below) {
        seed = seed * 6364136223846793005L + 1442695040888963407L;
        return (int) ((seed >>> 33) % below);
    }

    /** A number from least to most, now and then one beside them, and seldom one far off. */
    private static int near(int least, int most) {
        int kind = draw(60);
        if (kind == 0) {
            return FAR[draw(FAR.length)];
        }
        if (kind == 1) {
            return draw(2) == 0 ? least - 1 : most + 1;
        }
        return least + draw(Math.max(1, most - least + 1));
    }

    private static int drawnCall() {
        int sum = 0;
        for (int share : SHARES) {
            sum += share;
        }
        int at = draw(sum);
        int which = 0;
        while (at >= SHARES[which]) {
            at -= SHARES[which];
            which++;
        }
        return which;
    }

    private static void compare(int run) {
        FoldedProfiles x = new FoldedProfiles();
        Model m = new Model();
        int calls = typeSome(run, x, m, 0);
        while (calls < CALLS) {
            int which = drawnCall();
            boolean roomToType = calls + LONGEST_TYPING < CALLS;
            if (NAMES[which].equals("comeAll") && roomToType && draw(2) == 0) {
                calls = typeSome(run, x, m, calls);
            }
            int[] a = arguments(which, m);
            int want = ofModel(which, a, m);
            String call = "run " + run + ", call " + calls + ": " + NAMES[which] + java.util.Arrays.toString(a);
            Due.due(call, ofClass(which, a, x), want);
            if (want >= 0) {
                good[which]++;
            }
            calls++;
        }
    }

    /** Types entries, most of them without a fault, in place of the text, and lets them come. */
    private static int typeSome(int run, FoldedProfiles x, Model m, int calls) {
        String text = someText();
        Due.due("run " + run + ", call " + calls + ": clearText", x.clearText(), m.clearText());
        for (int i = 0; i < text.length(); i++) {
            Due.due("run " + run + ": type in " + text, x.type(text.charAt(i)), m.type(text.charAt(i)));
        }
        Due.due("run " + run + ": comeAll of '" + text + "'", x.comeAll(), m.comeAll());
        return calls + text.length() + 2;
    }

    private static String someText() {
        StringBuilder text = new StringBuilder();
        int entries = 1 + draw(draw(8) == 0 ? 9 : 3);
        for (int entry = 0; entry < entries; entry++) {
            if (entry > 0) {
                text.append(';');
            }
            int base = 1 + draw(9);
            for (int step = 0; step < 8; step++) {
                text.append(draw(40) == 0 ? 1 + draw(9) : base);
            }
            text.append("lrc".charAt(draw(3)));
            if (draw(2) == 0) {
                text.append(draw(20) == 0 ? draw(120) : 1 + draw(99));
            }
        }
        if (draw(6) == 0) {
            text.setCharAt(draw(text.length()), "0159lrc;x ".charAt(draw(10)));
        }
        if (draw(12) == 0) {
            text.setLength(draw(text.length()));
        }
        return text.toString();
    }

    private static int[] arguments(int which, Model m) {
        int p = near(0, m.count(1) - 1);
        int s = near(0, m.count(2) - 1);
        int step = near(0, 7);
        switch (NAMES[which]) {
            case "buy": return new int[] {draw(3) == 0 ? near(1, 200) : near(1, 60), near(1, 3)};
            case "trade": return new int[] {s, near(1, 3)};
            case "part": return new int[] {s, draw(3) == 0 ? near(1, 199) : near(1, 30)};
            case "draw": return new int[] {p, step, near(1, 9)};
            case "come": return new int[] {p, near(0, 2), near(1, 99)};
            case "serve": return new int[] {near(0, m.count(3) - 1)};
            case "cut": return new int[] {p, s, near(0, 3)};
            case "turn": return new int[] {p, draw(2)};
            case "set": return setting();
            case "type": return new int[] {draw(3) == 0 ? draw(65536) : "0123456789lrc;".charAt(draw(14))};
            case "width": return new int[] {p, step};
            case "profile": return new int[] {p, near(0, 6)};
            case "layerWidth": return new int[] {p, step, near(0, 7)};
            case "strip": return new int[] {s, near(0, 2)};
            case "sitter": return new int[] {near(0, m.count(3) - 1), near(0, 3)};
            case "ifCut": return new int[] {p, s, near(0, 3), near(0, 4)};
            case "bestStrip": return new int[] {p, near(0, 3)};
            case "fewestFolds": return new int[] {p, s};
            case "count": return new int[] {near(0, 15)};
            default: return new int[] {};
        }
    }

    private static int[] setting() {
        int which = near(0, 2);
        int most = which == 0 ? 9 : which == 1 ? 3 : 24;
        // a wide margin and a weak blade would leave few cuts
        int value = which == 0 && draw(2) == 0 ? draw(3) : near(which == 2 ? 1 : 0, most);
        return new int[] {which, value};
    }

    private static int ofModel(int which, int[] a, Model m) {
        switch (NAMES[which]) {
            case "buy": return m.buy(a[0], a[1]);
            case "trade": return m.trade(a[0], a[1]);
            case "part": return m.part(a[0], a[1]);
            case "draw": return m.draw(a[0], a[1], a[2]);
            case "come": return m.come(a[0], a[1], a[2]);
            case "comeAll": return m.comeAll();
            case "serve": return m.serve(a[0]);
            case "serveAll": return m.serveAll();
            case "cut": return m.cut(a[0], a[1], a[2]);
            case "turn": return m.turn(a[0], a[1] == 1);
            case "set": return m.set(a[0], a[1]);
            case "type": return m.type((char) a[0]);
            case "clearText": return m.clearText();
            case "undo": return m.undo();
            case "keep": return m.keep();
            case "restore": return m.restore();
            case "width": return m.width(a[0], a[1]);
            case "profile": return m.profile(a[0], a[1]);
            case "layerWidth": return m.layerWidth(a[0], a[1], a[2]);
            case "strip": return m.strip(a[0], a[1]);
            case "sitter": return m.sitter(a[0], a[1]);
            case "ifCut": return m.ifCut(a[0], a[1], a[2], a[3]);
            case "bestStrip": return m.bestStrip(a[0], a[1]);
            case "fewestFolds": return m.fewestFolds(a[0], a[1]);
            default: return m.count(a[0]);
        }
    }

    private static int ofClass(int which, int[] a, FoldedProfiles x) {
        switch (NAMES[which]) {
            case "buy": return x.buy(a[0], a[1]);
            case "trade": return x.trade(a[0], a[1]);
            case "part": return x.part(a[0], a[1]);
            case "draw": return x.draw(a[0], a[1], a[2]);
            case "come": return x.come(a[0], a[1], a[2]);
            case "comeAll": return x.comeAll();
            case "serve": return x.serve(a[0]);
            case "serveAll": return x.serveAll();
            case "cut": return x.cut(a[0], a[1], a[2]);
            case "turn": return x.turn(a[0], a[1] == 1);
            case "set": return x.set(a[0], a[1]);
            case "type": return x.type((char) a[0]);
            case "clearText": return x.clearText();
            case "undo": return x.undo();
            case "keep": return x.keep();
            case "restore": return x.restore();
            case "width": return x.width(a[0], a[1]);
            case "profile": return x.profile(a[0], a[1]);
            case "layerWidth": return x.layerWidth(a[0], a[1], a[2]);
            case "strip": return x.strip(a[0], a[1]);
            case "sitter": return x.sitter(a[0], a[1]);
            case "ifCut": return x.ifCut(a[0], a[1], a[2], a[3]);
            case "bestStrip": return x.bestStrip(a[0], a[1]);
            case "fewestFolds": return x.fewestFolds(a[0], a[1]);
            default: return x.count(a[0]);
        }
    }
}
