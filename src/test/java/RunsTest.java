/** Promises 43 to 46, 50, 51 and 54 to 62: runs, what is kept, and what is told of a run. */
public final class RunsTest extends Check {
    public static void main(String[] args) {
        nothingRun();
        limits();
        anew();
        anewInAll();
        keptSuper();
        keeping();
        keys();
        stale();
        notKept();
        off();
        shares();
        means();
        same();
        end();
    }

    private static void nothingRun() {
        OpenclassYard y = new OpenclassYard();
        due("45 to 58: none", y.steps() + y.printed() + y.classes() + y.hits() + y.misses() + y.definitions() + y.warnings() + y.sum(), 0L);
        due("47", of(() -> y.kindAt(0)), "IndexOutOfBoundsException");
        due("48", of(() -> y.valueAt(0)), "IndexOutOfBoundsException");
        due("49", of(() -> y.raised()), "NoSuchElementException");
        due("51", of(() -> y.lineage(0)), "IndexOutOfBoundsException");
        due("52", of(() -> y.lineageAt(0, 0)), "IndexOutOfBoundsException");
        due("53", of(() -> y.ownerOf(0, 0)), "IndexOutOfBoundsException");
        due("59", of(() -> y.hitShare()), "ArithmeticException");
        due("60", of(() -> y.hitBits()), "ArithmeticException");
        due("61", of(() -> y.meanLineage()), "ArithmeticException");
        due("62", of(() -> y.isSame(0)), "IndexOutOfBoundsException");
        due("62", of(() -> y.isSame(-1)), "IndexOutOfBoundsException");
        due("44", of(() -> y.run(-1, 5)), "IndexOutOfBoundsException");
    }

    private static void limits() {
        RunsTest t = new RunsTest();
        int node = t.seq(t.p(t.n(1)), t.p(t.n(2)));
        due("44: just enough", t.runLimited(node, 5), "d n1 n2");
        due("45: steps", t.y.steps(), 5);
        due("44: one too few", t.runLimited(node, 4), "l n1");
        due("45: steps", t.y.steps(), 4);
        due("49: not raised", of(() -> t.y.raised()), "NoSuchElementException");
        due("44: a part", t.runLimited(0, 1), "d");
        due("50: classes", t.y.classes(), 6);
        RunsTest u = new RunsTest();
        int type = u.type(6, u.n(1));
        due("44: before the body", u.runLimited(type, 1), "l");
        due("50: the class is there", u.y.classes(), 7);
        due("51: with its lineage", u.lineage(6), "6 0");
        RunsTest v = new RunsTest();
        int raising = v.seq(v.p(v.n(1)), v.y.raises(v.c(4)));
        due("44: raised", v.runLimited(raising, 5000), "e4 n1");
        due("49: the class", v.y.raised(), 4);
        due("44: the limit is too low", of(() -> v.y.run(raising, 0)), "IllegalArgumentException");
        due("44: the limit is too high", of(() -> v.y.run(raising, 5001)), "IllegalArgumentException");
        due("44: nothing changes", v.y.raised() + " " + v.y.steps() + " " + v.y.printed(), "4 5 1");
    }

    private static void anew() {
        RunsTest t = new RunsTest();
        int first = t.seq(t.type(6, t.define(7, t.n(1))), t.set(0, t.n(2)), t.y.setConstant(9, t.n(3)), t.y.freeze(t.c(0)));
        int second = t.seq(t.p(t.l(0)), t.define(7, t.n(3)), t.p(t.send(7)), t.tried(t.c(6)), t.tried(t.c(9)));
        due("44: a run", t.runLimited(first, 100), "d");
        due("44: begins with nothing defined", t.runLimited(second, 100), "d N n3 o2 o2");
        due("50: classes", t.y.classes(), 6);
        due("56: definitions", t.y.definitions(), 1);
        due("51: no class", of(() -> t.y.lineage(6)), "IndexOutOfBoundsException");
        due("44: nodes that are made later", t.y.run(t.p(t.n(9)), 10), 'd');
    }

    private String kept() {
        return y.hits() + " " + y.misses();
    }

    /** Counts local 0 up to a number; makes two calls of numbers each time, and one more at the end. */
    private int count(int to, int body) {
        return seq(set(0, n(0)), y.loop(call(l(0), 12, n(to)), seq(set(0, call(l(0), 10, n(1))), body)));
    }

    /** Nothing of a run goes into the next one, however it ended. */
    private static void anewInAll() {
        RunsTest t = new RunsTest();
        int deep = t.seq(t.define(7, t.send(7)), t.y.setConstant(2, t.n(1)), t.module(8, t.y.refine(t.c(1), t.define(9, t.n(9)))), t.y.using(t.c(8)), t.send(7));
        int shallow = t.seq(t.define(7, 1, t.y.choice(t.call(t.l(0), 12, t.n(2)), t.n(5), t.send(7, t.call(t.l(0), 11, t.n(1))))), t.module(8, t.y.refine(t.c(1), t.define(9, t.n(9)))),
                t.p(t.send(7, t.n(40))), t.tried(t.call(t.n(1), 9)));
        due("44: the depth of calls", t.runLimited(deep, 30), "l");
        due("57: a warning", t.y.warnings(), 1);
        due("44: the depth of calls anew, and nothing is used", t.runLimited(shallow, 5000), "d n5 o3");
        due("57: no warning", t.y.warnings(), 0);
        String once = t.kept() + " " + t.y.definitions() + " " + t.y.steps();
        due("44: once more", t.runLimited(shallow, 5000), "d n5 o3");
        due("54 55 56: just the same", t.kept() + " " + t.y.definitions() + " " + t.y.steps(), once);
        due("44: raised", t.runLimited(deep, 5000), "e4");
        due("44: nothing is raised any more", t.runLimited(shallow, 5000), "d n5 o3");
        due("62: the same", t.y.isSame(deep), true);
    }

    private static void keeping() {
        RunsTest t = new RunsTest();
        due("54 55: found nothing is kept, too", t.run(t.count(3, t.nil())), "d");
        due("54 55", t.kept(), "5 2");
        RunsTest u = new RunsTest();
        due("54 55: a method", u.run(u.define(7, u.nil()), u.count(4, u.send(7))), "d");
        due("54 55", u.kept(), "10 3");
        RunsTest v = new RunsTest();
        due("54 55: a safe one, not for nil", v.run(v.define(7, v.nil()), v.count(4, v.y.safeCall(v.y.choice(v.call(v.l(0), 12, v.n(3)), v.n(0), v.nil()), 7, -1, -1))), "d");
        due("54 55", v.kept(), "11 4");
    }

    private static void keys() {
        RunsTest t = new RunsTest();
        int two = t.seq(t.type(6, t.seq(t.define(7, t.n(1)), t.y.defineOn(t.self(), 7, 0, -1, t.n(2)))), t.define(8, 1, t.p(t.call(t.l(0), 7))), t.send(8, t.fresh(6)), t.send(8, t.fresh(6)), t.send(8, t.c(6)), t.send(8, t.c(6)), t.send(8, t.fresh(6)));
        due("54: of its class, or of the class itself", t.runLimited(two, 5000), "d n1 n1 n2 n2 n1");
        due("54 55", t.kept(), "2 11");
        due("62: the same without keeping", t.y.isSame(two), true);
        RunsTest u = new RunsTest();
        int own = u.seq(u.type(6, u.define(7, u.n(1))), u.set(1, u.fresh(6)), u.set(2, u.fresh(6)), u.y.defineOn(u.l(2), 9, 0, -1, u.nil()), u.define(8, 1, u.p(u.call(u.l(0), 7))),
                u.send(8, u.l(1)), u.send(8, u.l(2)), u.send(8, u.l(2)), u.send(8, u.fresh(6)), u.send(8, u.fresh(6)));
        due("54: of a thing with methods at its own place", u.runLimited(own, 5000), "d n1 n1 n1 n1 n1");
        due("54 55", u.kept(), "2 12");
        RunsTest v = new RunsTest();
        int mixed = v.seq(v.module(8, v.nil()), v.define(7, v.n(1)), v.set(1, v.fresh(0)), v.y.mix('e', v.l(1), v.c(8)), v.define(8, 1, v.p(v.call(v.l(0), 7))), v.send(8, v.l(1)), v.send(8, v.l(1)), v.send(8, v.nil()), v.send(8, v.y.plain('T')),
                v.send(8, v.c(8)), v.send(8, v.c(8)), v.send(8, v.c(0)));
        due("54: with modules at its own place; of others their class", v.runLimited(mixed, 5000), "d n1 n1 n1 n1 n1 n1 n1");
        due("54 55", v.kept(), "3 12");
    }

    /** What is kept knows where it was found, so that super goes on from there. */
    private static void keptSuper() {
        RunsTest t = new RunsTest();
        int node = t.seq(t.define(7, t.n(1)), t.type(6, t.define(7, t.call(t.y.superCall(true, -1, -1), 10, t.n(10)))), t.module(8, t.y.refine(t.c(6), t.define(7, t.call(t.y.superCall(true, -1, -1), 10, t.n(100))))),
                t.y.using(t.c(8)), t.define(9, 1, t.p(t.call(t.l(0), 7))), t.send(9, t.fresh(6)), t.send(9, t.fresh(6)), t.send(9, t.n(0)), t.send(9, t.n(0)), t.send(9, t.fresh(6)));
        due("54: of a refinement", t.runLimited(node, 5000), "d n111 n111 n1 n1 n111");
        due("62: the same", t.y.isSame(node), true);
        RunsTest u = new RunsTest();
        int two = u.seq(u.define(7, u.n(1)), u.type(6, u.define(7, u.call(u.y.superCall(true, -1, -1), 10, u.n(10)))), u.type(8, 6, u.nil()), u.define(9, 1, u.p(u.call(u.l(0), 7))),
                u.send(9, u.fresh(8)), u.send(9, u.fresh(8)), u.send(9, u.fresh(6)), u.send(9, u.fresh(6)));
        due("54: of a class", u.runLimited(two, 5000), "d n11 n11 n11 n11");
    }

    private static void stale() {
        RunsTest t = new RunsTest();
        int each = t.seq(t.module(8, t.nil()), t.type(6, t.seq(t.define(7, t.n(1)), t.define(9, t.nil()))), t.y.defineOn(t.c(6), 2, 0, -1, t.p(t.call(t.fresh(6), 7))), t.call(t.c(6), 2), t.call(t.c(6), 2),
                t.type(6, t.define(7, t.n(2))), t.call(t.c(6), 2), t.type(6, t.y.alias(10, 7)), t.call(t.c(6), 2), t.type(6, t.y.undefine(10)), t.call(t.c(6), 2), t.type(6, t.y.hide(9, 'r')), t.call(t.c(6), 2),
                t.type(6, t.include(8)), t.call(t.c(6), 2), t.type(6, t.include(8)), t.call(t.c(6), 2), t.y.using(t.c(8)), t.call(t.c(6), 2), t.y.setConstant(11, t.n(1)), t.type(9, t.nil()), t.y.freeze(t.c(9)), t.call(t.c(6), 2));
        due("54: any definition makes it stale", t.runLimited(each, 5000), "d n1 n1 n2 n2 n2 n2 n2 n2 n2 n2");
        // Ten calls of 2, each at its own node; 14 and 7 in it are hits when nothing was defined since: the 2nd, 8th and 10th time.
        due("54 55", t.kept(), "6 24");
        due("56: definitions", t.y.definitions(), 9);
        due("62: the same", t.y.isSame(each), true);
    }

    private static void notKept() {
        RunsTest t = new RunsTest();
        due("54 55: super, hooks, 0 and 1 do not count", t.run(t.define(7, t.nil()), t.define(0, t.nil()), t.define(1, 2, t.nil()), t.define(5, 1, t.nil()), t.type(6, t.define(7, t.y.superCall(true, -1, -1))), t.call(t.fresh(6), 7), t.send(8)), "d");
        due("54 55", t.kept(), "0 3");
    }

    private static void off() {
        RunsTest t = new RunsTest();
        int node = t.count(3, t.p(t.l(0)));
        t.y.setKeeping(false);
        due("43: without keeping", t.runLimited(node, 5000), "d n1 n2 n3");
        due("43 54 55: neither hits nor misses", t.kept(), "0 0");
        due("59: none of both", of(() -> t.y.hitShare()), "ArithmeticException");
        due("60: none of both", of(() -> t.y.hitBits()), "ArithmeticException");
        t.y.setKeeping(true);
        due("43: for runs from now on", t.kept(), "0 0");
        due("43: with keeping", t.runLimited(node, 5000), "d n1 n2 n3");
        due("43 54 55", t.kept(), "5 2");
    }

    private static void shares() {
        for (int to = 0; to < 40; to++) {
            RunsTest t = new RunsTest();
            int node = t.count(to, t.nil());
            t.y.run(node, 5000);
            int calls = 2 * to + 1;
            int misses = to == 0 ? 1 : 2;
            float share = (float) (calls - misses) / (float) calls;
            due("59: " + to, t.y.hitShare(), share);
            due("60: " + to, t.y.hitBits(), Float.floatToIntBits(share));
        }
        RunsTest u = new RunsTest();
        due("59: no calls", u.run(u.nil()), "d");
        due("59: no calls", of(() -> u.y.hitShare()), "ArithmeticException");
        due("60: no calls", of(() -> u.y.hitBits()), "ArithmeticException");
    }

    private static void means() {
        RunsTest t = new RunsTest();
        due("61", t.run(t.nil()), "d");
        due("61: 1 + 2 + 2 + 3 + 3 + 3 places", t.y.meanLineage(), 14.0 / 6.0);
        RunsTest u = new RunsTest();
        due("61", u.run(u.module(7, u.nil()), u.type(6, u.include(7)), u.type(8, 6, u.nil())), "d");
        due("61: 14 + 1 + 3 + 4 places", u.y.meanLineage(), 22.0 / 9.0);
    }

    private static void same() {
        RunsTest t = new RunsTest();
        int printing = t.seq(t.p(t.n(1)), t.p(t.fresh(0)), t.p(t.y.proc(t.block(t.nil()), true)), t.p(t.call(t.n(1), 10, t.n(2))));
        int long1 = t.y.loop(t.n(1), t.p(t.n(5)));
        due("62: before a run", t.y.isSame(printing), true);
        due("62: it is none", t.y.classes() + t.y.printed() + t.y.steps(), 0);
        due("44", t.runLimited(printing, 5000), "d n1 o0 p n3");
        String before = t.kept() + t.y.steps() + t.y.classes() + t.y.sum() + t.lineage(5);
        due("62: until the limit", t.y.isSame(long1), true);
        due("62: the last run stays", t.kept() + t.y.steps() + t.y.classes() + t.y.sum() + t.lineage(5), before);
        due("62: what it printed, too", t.y.kindAt(2) + " " + t.y.valueAt(3), "p 3");
        due("62: no node", of(() -> t.y.isSame(240)), "IndexOutOfBoundsException");
    }
}
