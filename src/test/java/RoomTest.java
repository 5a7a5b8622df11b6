import com.sun.management.ThreadMXBean;
import java.lang.management.ManagementFactory;

/** All runs of one object live in one room: what is kept is used again, so that long runs take next to none of it. */
public final class RoomTest extends Check {
    private static final ThreadMXBean ROOM = (ThreadMXBean) ManagementFactory.getThreadMXBean();

    public static void main(String[] args) {
        long before = room();
        RoomTest t = new RoomTest();
        due("1: a new object takes little", room() - before < 200_000, true);
        int[] busy = {t.calling(), t.defining(), t.raisingAll(), t.mixing()};
        for (int node : busy) {
            t.y.run(node, 5000);
            t.y.isSame(node);
        }
        due("44: the first runs make the rows", room() - before < 40_000_000, true);
        before = room();
        for (int i = 0; i < 100; i++) {
            for (int node : busy) {
                if (t.y.run(node, 5000) != 'l' || !t.y.isSame(node) || t.y.meanLineage() < 1) {
                    due("44: ends at its limit", t.y.steps(), 5000);
                }
            }
        }
        due("44: later runs use them again", room() - before < 100_000, true);
        end();
    }

    private static long room() {
        return ROOM.getThreadAllocatedBytes(Thread.currentThread().getId());
    }

    private int forever(int body) {
        return y.loop(n(1), body);
    }

    private int calling() {
        return seq(define(7, 1, y.proc(block(l(0)), true)), forever(call(send(7, fresh(0)), 15)));
    }

    private int defining() {
        return forever(seq(define(8, nil()), y.setConstant(6, nil()), type(6, y.defineOn(self(), 7, 0, -1, nil())), y.setConstant(7, c(6)), y.setConstant(6, nil()),
                y.classNode(6, c(7), nil())));
    }

    private int raisingAll() {
        return forever(y.attempt(y.attempt(y.raises(c(0)), 11, 0, nil(), -1, y.attempt(send(9), -1, 1, nil(), -1, -1)), -1, 2, nil(), -1, -1));
    }

    private int mixing() {
        return seq(module(9, nil()), forever(seq(y.setConstant(8, nil()), module(8, seq(include(9), y.refine(c(1), define(7, nil())))), y.setConstant(9, c(8)), y.using(c(8)), y.mix('e', fresh(0), c(8)),
                y.choice(y.responds(n(1), 7), nil(), -1))));
    }
}
