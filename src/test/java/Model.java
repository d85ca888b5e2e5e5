import java.util.ArrayList;
import java.util.List;

/**
 * The document told a second time, in another way: each act makes a new state, profiles are texts,
 * cut profiles are counted layer by layer. ModelTest compares its answers with those of FoldedProfiles.
 */
final class Model {
    private static final class State {
        List<String> profiles = new ArrayList<>();
        List<int[]> stock = new ArrayList<>();
        List<int[]> strips = new ArrayList<>();
        List<int[]> sitters = new ArrayList<>();
        int[] settings = {1, 0, 8};
        int coins = 10;
        int clock;
        int served;
        int gone;
        int cutLength;

        State copy() {
            State to = new State();
            to.profiles.addAll(profiles);
            stock.forEach(row -> to.stock.add(row.clone()));
            strips.forEach(row -> to.strips.add(row.clone()));
            sitters.forEach(row -> to.sitters.add(row.clone()));
            to.settings = settings.clone();
            to.coins = coins;
            to.clock = clock;
            to.served = served;
            to.gone = gone;
            to.cutLength = cutLength;
            return to;
        }

        void pass(int ticks) {
            clock += ticks;
            sitters.forEach(row -> row[2] -= ticks);
            int before = sitters.size();
            sitters.removeIf(row -> row[2] <= 0);
            gone += before - sitters.size();
        }

        int servant(int[] sitter) {
            for (int p = 0; p < profiles.size(); p++) {
                int[] there = stock.get(p);
                boolean enough = sitter[1] == 2 ? there[0] > 0 && there[1] > 0 : there[sitter[1]] > 0;
                if (enough && profiles.get(p).equals(profiles.get(sitter[0]))) {
                    return p;
                }
            }
            return -1;
        }

        void serveBy(int[] sitter, int p) {
            if (sitter[1] == 2) {
                stock.get(p)[0]--;
                stock.get(p)[1]--;
                coins += 5;
            } else {
                stock.get(p)[sitter[1]]--;
                coins += 2;
            }
            served++;
            sitters.remove(sitter);
        }

        int serveEach() {
            int done = 0;
            for (int[] sitter : new ArrayList<>(sitters)) {
                int p = servant(sitter);
                if (p >= 0) {
                    serveBy(sitter, p);
                    done++;
                }
            }
            return done;
        }

        int need(int p, int folds) {
            int widest = profiles.get(p).chars().max().getAsInt() - '0';
            return (int) Math.pow(2, folds) * (widest + settings[0] + folds * settings[1]);
        }

        int whyNot(int p, int s, int folds) {
            if (Math.pow(2, folds) * strips.get(s)[1] > settings[2]) {
                return -11;
            }
            return need(p, folds) > strips.get(s)[0] ? -12 : 0;
        }

        int cut(int p, int s, int folds) {
            int need = need(p, folds);
            int made = 0;
            for (int layer = 0; layer < Math.pow(2, folds); layer++) {
                stock.get(p)[layer % 2]++;
                stock.get(p)[2]++;
                made++;
            }
            cutLength += need;
            strips.get(s)[0] -= need;
            strips.removeIf(row -> row[0] == 0);
            pass(1);
            for (int fold = 0; fold < folds; fold++) {
                pass(1);
            }
            return made;
        }
    }

    private State now = new State();
    private State kept;
    private final List<State> past = new ArrayList<>();
    private final StringBuilder text = new StringBuilder();

    private static boolean out(int value, int least, int most) {
        return value < least || value > most;
    }

    private boolean noProfile(int p) {
        return out(p, 0, now.profiles.size() - 1);
    }

    private boolean noStrip(int s) {
        return out(s, 0, now.strips.size() - 1);
    }

    private State act() {
        past.add(now);
        if (past.size() > 4) {
            past.remove(0);
        }
        now = now.copy();
        return now;
    }

    int buy(int length, int thickness) {
        if (out(length, 1, 200) || out(thickness, 1, 3)) return -2;
        if (now.strips.size() == 6) return -3;
        int price = thickness + length / 20;
        if (price > now.coins) return -4;
        State s = act();
        s.coins -= price;
        s.strips.add(new int[] {length, thickness});
        return s.strips.size() - 1;
    }

    int trade(int strip, int thickness) {
        if (noStrip(strip)) return -1;
        if (out(thickness, 1, 3)) return -2;
        int[] was = now.strips.get(strip);
        if (was[0] < 10 || was[1] == thickness) return -4;
        act().strips.set(strip, new int[] {was[0] - 2, thickness});
        return was[0] - 2;
    }

    int part(int strip, int length) {
        if (noStrip(strip)) return -1;
        if (out(length, 1, 199)) return -2;
        if (now.strips.size() == 6) return -3;
        int[] was = now.strips.get(strip);
        if (was[0] <= length) return -4;
        State s = act();
        s.strips.set(strip, new int[] {length, was[1]});
        s.strips.add(new int[] {was[0] - length, was[1]});
        return s.strips.size() - 1;
    }

    private static int keepProfile(State s, String widths) {
        s.profiles.add(widths);
        s.stock.add(new int[3]);
        return s.profiles.size() - 1;
    }

    int draw(int profile, int step, int width) {
        if (noProfile(profile) || out(step, 0, 7)) return -1;
        if (out(width, 1, 9)) return -2;
        if (now.profiles.size() == 10) return -3;
        StringBuilder widths = new StringBuilder(now.profiles.get(profile));
        widths.setCharAt(step, (char) ('0' + width));
        return keepProfile(act(), widths.toString());
    }

    int come(int profile, int want, int patience) {
        if (noProfile(profile)) return -1;
        if (out(want, 0, 2) || out(patience, 1, 99)) return -2;
        if (now.sitters.size() == 12) return -3;
        act().sitters.add(new int[] {profile, want, patience});
        return now.sitters.size();
    }

    /** How far a text can be the beginning of one that is allowed: the fault, or -1. */
    private static int fault(String text) {
        String entry = "[1-9]{8}[lrc]([1-9][0-9]?)?";
        if (text.matches(entry + "(;" + entry + ")*")) {
            return -1;
        }
        for (int end = text.length(); end >= 0; end--) {
            if (isBeginning(text.substring(0, end))) {
                return end;
            }
        }
        return 0;
    }

    private static boolean isBeginning(String text) {
        String whole = "[1-9]{8}[lrc]([1-9][0-9]?)?";
        return text.matches("(" + whole + ";)*([1-9]{0,8}|" + whole + ")");
    }

    int comeAll() {
        int fault = fault(text.toString());
        if (fault >= 0) return -100 - fault;
        State s = now.copy();
        for (String entry : text.toString().split(";")) {
            String widths = entry.substring(0, 8);
            int p = s.profiles.contains(widths) ? s.profiles.indexOf(widths) : keepProfile(s, widths);
            int patience = entry.length() == 9 ? 20 : Integer.parseInt(entry.substring(9));
            s.sitters.add(new int[] {p, "lrc".indexOf(entry.charAt(8)), patience});
        }
        if (s.profiles.size() > 10 || s.sitters.size() > 12) return -3;
        act();
        now = s;
        return s.sitters.size();
    }

    int serve(int sitter) {
        if (out(sitter, 0, now.sitters.size() - 1)) return -1;
        int p = now.servant(now.sitters.get(sitter));
        if (p < 0) return -4;
        State s = act();
        s.serveBy(s.sitters.get(sitter), p);
        return s.coins;
    }

    int serveAll() {
        if (now.copy().serveEach() == 0) return -5;
        return act().serveEach();
    }

    int cut(int profile, int strip, int folds) {
        if (noProfile(profile) || noStrip(strip)) return -1;
        if (out(folds, 0, 3)) return -2;
        int why = now.whyNot(profile, strip, folds);
        return why != 0 ? why : act().cut(profile, strip, folds);
    }

    int turn(int profile, boolean right) {
        if (noProfile(profile)) return -1;
        int to = right ? 1 : 0;
        if (now.stock.get(profile)[1 - to] == 0) return -4;
        State s = act();
        s.stock.get(profile)[1 - to]--;
        s.stock.get(profile)[to]++;
        s.pass(1);
        return s.stock.get(profile)[to];
    }

    int set(int which, int value) {
        if (out(which, 0, 2)) return -1;
        if (which == 0 && out(value, 0, 9)) return -2;
        if (which == 1 && out(value, 0, 3)) return -2;
        if (which == 2 && out(value, 1, 24)) return -2;
        int was = now.settings[which];
        if (was == value) return -5;
        act().settings[which] = value;
        return was;
    }

    int type(char character) {
        if (text.length() == 80) return -3;
        return text.append(character).length();
    }

    int clearText() {
        int was = text.length();
        text.setLength(0);
        return was;
    }

    int undo() {
        if (past.isEmpty()) return -5;
        now = past.remove(past.size() - 1);
        return past.size();
    }

    int keep() {
        kept = now.copy();
        return now.coins;
    }

    int restore() {
        if (kept == null) return -5;
        act();
        now = kept.copy();
        return now.coins;
    }

    int width(int profile, int step) {
        if (noProfile(profile) || out(step, 0, 7)) return -1;
        return now.profiles.get(profile).charAt(step) - '0';
    }

    int profile(int profile, int what) {
        if (noProfile(profile)) return -1;
        String widths = now.profiles.get(profile);
        if (what == 0) return widths.chars().max().getAsInt() - '0';
        if (what == 1) return widths.chars().sum() - 8 * '0';
        if (what == 2) return now.stock.get(profile)[0];
        if (what == 3) return now.stock.get(profile)[1];
        if (what == 4) return (int) now.sitters.stream().filter(row -> row[0] == profile).count();
        if (what == 5) return now.stock.get(profile)[2];
        return what == 6 ? now.profiles.indexOf(widths) : -2;
    }

    int layerWidth(int profile, int step, int layer) {
        if (noProfile(profile) || out(step, 0, 7)) return -1;
        if (out(layer, 0, 7)) return -2;
        return width(profile, step) + now.settings[1] * (layer / 2);
    }

    int strip(int strip, int what) {
        if (noStrip(strip)) return -1;
        int[] row = now.strips.get(strip);
        if (what == 0 || what == 1) return row[what];
        if (what != 2) return -2;
        int most = -5;
        for (int folds = 0; folds <= 3; folds++) {
            if (Math.pow(2, folds) * row[1] <= now.settings[2]) most = folds;
        }
        return most;
    }

    int sitter(int sitter, int what) {
        if (out(sitter, 0, now.sitters.size() - 1)) return -1;
        if (out(what, 0, 3)) return -2;
        int[] row = now.sitters.get(sitter);
        return what < 3 ? row[what] : now.servant(row) < 0 ? 0 : 1;
    }

    int ifCut(int profile, int strip, int folds, int what) {
        if (noProfile(profile) || noStrip(strip)) return -1;
        if (out(folds, 0, 3) || out(what, 0, 4)) return -2;
        int why = now.whyNot(profile, strip, folds);
        if (why != 0) return why;
        State s = now.copy();
        int made = s.cut(profile, strip, folds);
        if (what == 0) return made;
        if (what == 1) return s.cutLength - now.cutLength;
        if (what == 2) return now.strips.get(strip)[0] - (s.cutLength - now.cutLength);
        return what == 3 ? now.sitters.size() - s.sitters.size() : s.serveEach();
    }

    int bestStrip(int profile, int folds) {
        if (noProfile(profile)) return -1;
        if (out(folds, 0, 3)) return -2;
        int best = -5;
        for (int s = now.strips.size() - 1; s >= 0; s--) {
            boolean better = best < 0 || ifCut(profile, s, folds, 2) <= ifCut(profile, best, folds, 2);
            if (now.whyNot(profile, s, folds) == 0 && better) best = s;
        }
        return best;
    }

    int fewestFolds(int profile, int strip) {
        if (noProfile(profile) || noStrip(strip)) return -1;
        for (int folds = 0; folds <= 3; folds++) {
            if (now.whyNot(profile, strip, folds) != 0) continue;
            State s = now.copy();
            int[] there = s.stock.get(profile);
            for (int layer = 0; layer < Math.pow(2, folds); layer++) there[layer % 2]++;
            for (int[] row : s.sitters) {
                if (row[0] == profile && row[1] != 1) there[0]--;
                if (row[0] == profile && row[1] != 0) there[1]--;
            }
            if (there[0] >= 0 && there[1] >= 0) return folds;
        }
        return -5;
    }

    int count(int what) {
        int stock = now.stock.stream().mapToInt(row -> row[0] + row[1]).sum();
        int cut = now.stock.stream().mapToInt(row -> row[2]).sum();
        int length = now.strips.stream().mapToInt(row -> row[0]).sum();
        int[] all = {now.clock, now.profiles.size(), now.strips.size(), now.sitters.size(), length, stock, cut,
            now.served, now.gone, now.coins, now.settings[0], now.settings[1], now.settings[2],
            now.cutLength, past.size(), text.length()};
        return out(what, 0, 15) ? -2 : all[what];
    }
}
