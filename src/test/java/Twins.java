import java.util.List;

/** Two stalls that are made alike: one is refused a call, and nothing may tell them apart then. */
final class Twins {
    // as it is; behind 1 to 4 undo(); behind restore(); behind comeAll(); behind 4 undo() and comeAll()
    private static final int LOOKS = 8;

    private Twins() {
    }

    interface Making {
        void of(FoldedProfiles x);
    }

    interface Call {
        int on(FoldedProfiles x);
    }

    /** The call answers what is due, and changes neither state nor text, history and snapshot. */
    static void unchanged(String call, Making making, Call refused, int due) {
        for (int look = 0; look < LOOKS; look++) {
            FoldedProfiles x = made(making);
            FoldedProfiles twin = made(making);
            Due.due(call, refused.on(x), due);
            Due.same(call + " changed something, look " + look, told(x, look), told(twin, look));
        }
    }

    private static FoldedProfiles made(Making making) {
        FoldedProfiles x = new FoldedProfiles();
        making.of(x);
        return x;
    }

    private static List<String> told(FoldedProfiles x, int look) {
        int undone = look <= 4 ? look : look == 7 ? 4 : 0;
        int answer = 0;
        for (int i = 0; i < undone; i++) {
            answer = x.undo();
        }
        if (look == 5) {
            answer = x.restore();
        }
        if (look >= 6) {
            answer = x.comeAll();
        }
        List<String> seen = Seen.all(x);
        seen.add("the last answer = " + answer);
        return seen;
    }
}
