import java.util.Set;
import java.util.TreeSet;

/** Random programs, with all that can be asked behind them, beside a model that shares no code with the class. */
public final class ModelTest extends Check {
    private static final Set<String> REACHED = new TreeSet<>();
    private static final Set<String> TO_REACH = Set.of("0 of what is made", "1 of what is hidden", "1 of what is not found", "1 of what may not be called", "a block",
            "a call that is left", "a catching", "a cause", "a lambda", "a last part behind Again", "a last part behind Left", "a last part behind Raised", "a method",
            "a method of a refinement", "a method of an own place", "a new 2", "a new 3", "a new 4", "a new 5", "a new Error in place of it", "a proc", "a turn",
            "called o", "called u", "hook 3", "hook 4", "hook 5", "not called o", "not called r", "r of a lambda", "r of a method", "r of a method that is over",
            "retrying", "super", "super in a block", "super of a refinement", "too deep");
    private static int made = 0;

    /** Without arguments some programs; with two the programs from one number up to another one. */
    public static void main(String[] args) {
        long from = args.length > 1 ? Long.parseLong(args[0]) : 0;
        long to = args.length > 1 ? Long.parseLong(args[1]) : 4000;
        for (long seed = from; seed < to; seed++) {
            compare(seed);
        }
        due("programs", made > (to - from) / 2, true);
        for (String reached : TO_REACH) {
            due("a program with " + reached, REACHED.contains(reached), true);
        }
        end();
    }

    private static void compare(long seed) {
        Programs p = new Programs(seed);
        int node;
        try {
            node = p.program();
        } catch (IllegalStateException e) {
            // It wanted more than 240 nodes.
            return;
        }
        made++;
        int limit = p.perhaps(0.8) ? 1500 : 1 + p.below(300);
        same(p, "program " + seed, node, limit);
        if (seed % 8 == 0) {
            same(p, "program " + seed + " again", node, limit);
            due("62: program " + seed, p.y.isSame(node), true);
            p.setKeeping(false);
            same(p, "program " + seed + " with nothing kept", node, limit);
        }
        REACHED.addAll(p.model.reached);
    }

    private static void same(Programs p, String what, int node, int limit) {
        String want = p.dueOf(node, limit);
        String got = p.gotOf(node, limit);
        due(want.equals(got) ? what : what + " of " + p.calls(), got, want);
    }
}
