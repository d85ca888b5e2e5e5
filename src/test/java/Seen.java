import java.util.ArrayList;
import java.util.List;

/** What a stall tells of itself, to see what a call has changed. A look keeps to what is there: some 200 calls at most. */
final class Seen {
    private Seen() {
    }

    /** The state: all that undo() and restore() bring back. */
    static List<String> state(FoldedProfiles x) {
        List<String> seen = new ArrayList<>();
        for (int what = 0; what <= 13; what++) {
            seen.add("count(" + what + ") = " + x.count(what));
        }
        for (int profile = 0; profile < x.count(1); profile++) {
            for (int step = 0; step < 8; step++) {
                seen.add("width(" + profile + ", " + step + ") = " + x.width(profile, step));
            }
            // 0, 1, 4 and 6 follow from the widths and the line
            for (int what : new int[] {2, 3, 5}) {
                seen.add("profile(" + profile + ", " + what + ") = " + x.profile(profile, what));
            }
        }
        for (int strip = 0; strip < x.count(2); strip++) {
            for (int what = 0; what < 2; what++) {
                seen.add("strip(" + strip + ", " + what + ") = " + x.strip(strip, what));
            }
        }
        for (int sitter = 0; sitter < x.count(3); sitter++) {
            for (int what = 0; what < 3; what++) {
                seen.add("sitter(" + sitter + ", " + what + ") = " + x.sitter(sitter, what));
            }
        }
        return seen;
    }

    /** The state, and what the history and the text tell of themselves. */
    static List<String> all(FoldedProfiles x) {
        List<String> seen = state(x);
        seen.add("count(14) = " + x.count(14));
        seen.add("count(15) = " + x.count(15));
        return seen;
    }
}
