import java.util.LinkedHashMap;
import java.util.LinkedHashSet;
import java.util.Map;
import java.util.Objects;
import java.util.Set;

/**
 * All of an object that calls can tell. Looking uses the object up (the tape is read, the image comes back), so two
 * objects that were made alike are compared, one of which was asked something more.
 */
final class Snapshot {
    private static final int MOST_NUMBERS = 5;

    private final Map<String, Long> told = new LinkedHashMap<>();
    private final BreakSwaps x;

    Snapshot(BreakSwaps x) {
        this.x = x;
        for (int which = -1; which < 7; which++) {
            tell("", "status(" + which + ")");
        }
        tell("", "count(1)");
        for (int s = 0; s < 4; s++) {
            for (int i = 0; i <= MOST_NUMBERS; i++) {
                tell("", "write(" + s + ", " + i + ", 0)");
            }
        }
        tellYard("");
        tell("then ", "yard()");
        tellYard("then ");
        tell("kept ", "undo()");
        tellYard("kept ");
    }

    private void tell(String when, String call) {
        told.put(when + call, Calls.ask(x, call));
    }

    private void tellYard(String when) {
        tell(when, "now(0)");
        tell(when, "now(1)");
        tell(when, "count(0)");
        int children = x.count(0);
        for (int c = 0; c < children; c++) {
            for (int what = 0; what < 4; what++) {
                tell(when, "of(" + c + ", " + what + ")");
            }
            // What a thing is worth to a plain child is how much it likes it.
            int kind = x.turn(c, 0);
            for (int thing = 0; thing < 10; thing++) {
                tell(when, "worth(" + c + ", " + thing + ")");
            }
            x.turn(c, kind);
        }
    }

    /**
     * What the other one tells otherwise, as "now(0) 3>4, count(1) 6>0"; "" if both tell the same. What was so before
     * the tape was read isn't told again behind it.
     */
    String changesTo(Snapshot other) {
        Set<String> whats = new LinkedHashSet<>(told.keySet());
        whats.addAll(other.told.keySet());
        Set<String> changes = new LinkedHashSet<>();
        for (String what : whats) {
            Long was = told.get(what);
            Long is = other.told.get(what);
            String change = " " + was + ">" + is;
            if (!Objects.equals(was, is) && !changes.contains(what.replace("then ", "") + change)) {
                changes.add(what + change);
            }
        }
        return String.join(", ", changes);
    }
}
