/** Promises 18 and 22 to 26: leaving, raising, trying, and throwing. */
public final class LeavingTest extends Check {
    public static void main(String[] args) {
        loops();
        lambdas();
        givenBlocks();
        methods();
        program();
        bodies();
        over();
        outermost();
        raising();
        trying();
        lastParts();
        causes();
        retrying();
        throwing();
        end();
    }

    private int leave(char kind, int value) {
        return y.leave(kind, value);
    }

    /** Counts local 0 up to a number, with a body each time. */
    private int count(int to, int body) {
        return seq(set(0, n(0)), y.loop(call(l(0), 12, n(to)), seq(set(0, call(l(0), 10, n(1))), body)));
    }

    private int when(int local, int value, int what) {
        return y.choice(call(l(local), 13, n(value)), what, -1);
    }

    private static void loops() {
        LeavingTest t = new LeavingTest();
        due("18: b leaves the loop, with nil", t.run(t.p(t.count(5, t.seq(t.when(0, 3, t.leave('b', t.n(9))), t.p(t.l(0)))))), "d n1 n2 N");
        LeavingTest u = new LeavingTest();
        due("18: n goes on with the next turn", u.run(u.p(u.count(4, u.seq(u.when(0, 2, u.leave('n', u.p(u.n(9)))), u.p(u.l(0)))))), "d n1 n9 n3 n4 N");
        LeavingTest v = new LeavingTest();
        due("18: in the condition", v.run(v.p(v.y.loop(v.seq(v.set(0, v.call(v.y.orSet('l', 0, v.n(0)), 10, v.n(1))), v.when(0, 2, v.leave('n', -1)),
                v.when(0, 4, v.leave('b', v.n(7))), v.p(v.l(0))), v.p(v.n(50)))), v.p(v.l(0))), "d n1 n50 n3 n50 N n4");
        LeavingTest w = new LeavingTest();
        due("18: the innermost one", w.run(w.count(2, w.seq(w.y.loop(w.n(1), w.seq(w.p(w.n(7)), w.leave('b', -1))), w.p(w.l(0))))), "d n7 n1 n7 n2");
        LeavingTest x = new LeavingTest();
        due("18: not out of a method, or at the top", x.run(x.define(7, x.leave('b', -1)), x.define(8, x.leave('n', -1)), x.count(1, x.seq(x.tried(x.send(7)), x.tried(x.send(8)))),
                x.tried(x.leave('b', x.p(x.n(1)))), x.tried(x.leave('n', -1))), "d o4 o4 n1 o4 o4");
        LeavingTest z = new LeavingTest();
        due("18: out of a try", z.run(z.p(z.count(3, z.y.attempt(z.leave('b', -1), -1, 1, z.p(z.n(1)), z.p(z.n(2)), z.p(z.n(3)))))), "d n3 N");
    }

    private static void lambdas() {
        LeavingTest t = new LeavingTest();
        due("18: b, n and r leave a lambda", t.run(t.set(0, t.y.proc(t.block(t.seq(t.leave('b', t.n(1)), t.p(t.n(9)))), true)), t.p(t.call(t.l(0), 15)),
                t.set(0, t.y.proc(t.block(t.seq(t.leave('n', t.n(2)), t.p(t.n(9)))), true)), t.p(t.call(t.l(0), 15)),
                t.set(0, t.y.proc(t.block(t.seq(t.leave('r', t.n(3)), t.p(t.n(9)))), true)), t.p(t.call(t.l(0), 15)),
                t.set(0, t.y.proc(t.block(t.seq(t.leave('r', -1), t.p(t.n(9)))), true)), t.p(t.call(t.l(0), 15))), "d n1 n2 n3 N");
        LeavingTest u = new LeavingTest();
        due("18: a loop in a lambda comes first", u.run(u.p(u.call(u.y.proc(u.block(u.seq(u.y.loop(u.n(1), u.leave('b', u.n(1))), u.n(2))), true), 15))), "d n2");
        LeavingTest v = new LeavingTest();
        due("18: r in a block leaves the lambda around", v.run(v.define(7, v.seq(v.y.yields(-1, -1), v.p(v.n(8)))), v.p(v.call(v.y.proc(v.block(v.seq(
                v.y.call(-1, 7, -1, -1, v.block(v.leave('r', v.n(5)))), v.p(v.n(9)))), true), 15)), v.p(v.n(6))), "d n5 n6");
        LeavingTest w = new LeavingTest();
        due("18: in a proc, n leaves it, b raises", w.run(w.p(w.call(w.y.proc(w.block(w.seq(w.leave('n', w.n(2)), w.p(w.n(9)))), false), 15)),
                w.tried(w.call(w.y.proc(w.block(w.leave('b', w.n(2))), false), 15))), "d n2 o4");
    }

    private static void givenBlocks() {
        LeavingTest t = new LeavingTest();
        due("18: b leaves the call to which the block was given", t.run(t.define(7, t.seq(t.y.yields(-1, -1), t.p(t.n(9)))), t.p(t.y.call(-1, 7, -1, -1, t.block(
                t.seq(t.leave('b', t.n(4)), t.p(t.n(8))))))), "d n4");
        LeavingTest u = new LeavingTest();
        due("18: n leaves the block", u.run(u.define(7, u.seq(u.p(u.y.yields(-1, -1)), u.n(9))), u.p(u.y.call(-1, 7, -1, -1, u.block(
                u.seq(u.leave('n', u.n(4)), u.p(u.n(8))))))), "d n4 n9");
        LeavingTest v = new LeavingTest();
        due("18: b leaves the first call, where super or another method got the block", v.run(v.type(6, v.define(7, v.seq(v.y.yields(-1, -1), v.p(v.n(1))))),
                v.type(7, 6, v.define(7, v.seq(v.y.superCall(true, -1, -1), v.p(v.n(2))))), v.p(v.y.call(v.fresh(7), 7, -1, -1, v.block(v.leave('b', v.n(3))))), v.p(v.n(4))), "d n3 n4");
        LeavingTest w = new LeavingTest();
        due("18: a loop around the call is not around the block", w.run(w.define(7, w.seq(w.y.yields(-1, -1), w.p(w.n(9)))), w.count(2, w.p(w.y.call(-1, 7, -1, -1,
                w.block(w.leave('b', w.l(0))))))), "d n1 n2");
        LeavingTest x = new LeavingTest();
        due("18: b in a block, while 1 answers", x.run(x.define(1, 2, x.seq(x.y.yields(-1, -1), x.p(x.n(9)))), x.p(x.y.call(-1, 7, -1, -1, x.block(x.leave('b', x.n(5)))))), "d n5");
    }

    private static void methods() {
        LeavingTest t = new LeavingTest();
        due("18: r leaves the method", t.run(t.define(7, 1, t.seq(t.y.loop(t.n(1), t.leave('r', t.l(0))), t.p(t.n(9)))), t.p(t.send(7, t.n(4)))), "d n4");
        LeavingTest u = new LeavingTest();
        due("18: r in a block leaves the method around where it was made", u.run(u.define(7, u.seq(u.y.yields(-1, -1), u.p(u.n(9)))), u.define(8, u.seq(u.y.call(-1, 7, -1, -1,
                u.block(u.leave('r', u.n(3)))), u.p(u.n(8)))), u.p(u.send(8)), u.p(u.n(1))), "d n3 n1");
        LeavingTest v = new LeavingTest();
        due("18: r in a proc leaves the method around", v.run(v.define(8, v.seq(v.call(v.y.proc(v.block(v.leave('r', v.n(3))), false), 15), v.p(v.n(8)))), v.p(v.send(8))), "d n3");
        LeavingTest w = new LeavingTest();
        due("18: the last part of a method that is left", w.run(w.define(7, w.seq(w.y.attempt(w.leave('r', w.n(1)), -1, 0, w.nil(), w.nil(), w.p(w.n(5))), w.p(w.n(9)))), w.p(w.send(7))), "d n5 n1");
        LeavingTest x = new LeavingTest();
        due("18: the last part leaves itself", x.run(x.define(7, x.y.attempt(x.leave('r', x.n(1)), -1, 0, x.nil(), -1, x.leave('r', x.n(2)))), x.p(x.send(7)),
                x.define(8, x.y.attempt(x.raises(), -1, 0, x.n(4), -1, x.leave('r', x.n(3)))), x.p(x.send(8))), "d n2 n3");
    }

    private int raises() {
        return y.raises(c(2));
    }

    private static void program() {
        LeavingTest t = new LeavingTest();
        due("18: r leaves the program", t.run(t.p(t.n(1)), t.y.attempt(t.leave('r', t.n(3)), -1, 0, t.p(t.n(4)), t.p(t.n(5)), t.p(t.n(6))), t.p(t.n(2))), "d n1 n6");
        LeavingTest u = new LeavingTest();
        due("18: r in a block at the top leaves the program", u.run(u.define(7, u.seq(u.y.yields(-1, -1), u.p(u.n(9)))), u.y.call(-1, 7, -1, -1, u.block(u.leave('r', -1))), u.p(u.n(8))), "d");
        LeavingTest v = new LeavingTest();
        due("18: r in a body leaves the program", v.run(v.define(7, v.seq(v.type(6, v.leave('r', -1)), v.p(v.n(9)))), v.send(7), v.p(v.n(8))), "d");
    }

    private static void bodies() {
        LeavingTest t = new LeavingTest();
        due("18: nothing but classes and modules is around what is in a body", t.run(t.count(1, t.tried(t.type(6, t.leave('b', -1)))), t.define(7, t.y.yields(-1, -1)),
                t.tried(t.y.call(-1, 7, -1, -1, t.block(t.module(7, t.leave('n', -1))))), t.type(6, t.count(1, t.leave('b', -1))),
                t.tried(t.y.attempt(t.raises(), -1, 0, t.type(6, t.y.retry()), -1, -1))), "d o4 o4 o4");
        LeavingTest u = new LeavingTest();
        due("18: a refinement is no body of its own", u.run(u.module(8, u.seq(u.count(2, u.seq(u.y.refine(u.c(1), u.leave('b', -1)), u.p(u.n(9)))), u.p(u.l(0))))), "d n1");
    }

    private static void over() {
        LeavingTest t = new LeavingTest();
        due("18: the method is over", t.run(t.define(7, t.y.proc(t.block(t.leave('r', t.n(1))), false)), t.set(0, t.send(7)), t.tried(t.call(t.l(0), 15))), "d o4");
        LeavingTest u = new LeavingTest();
        due("18: the call to which the block was given is over", u.run(u.define(7, u.y.proc(u.block(u.y.yields(-1, -1)), false)), u.set(0, u.y.call(-1, 7, -1, -1, u.block(u.leave('b', u.n(1))))),
                u.tried(u.call(u.l(0), 15)), u.define(8, u.seq(u.set(0, u.y.call(-1, 7, -1, -1, u.block(u.leave('n', u.n(5))))), u.call(u.l(0), 15))), u.p(u.send(8))), "d o4 n5");
        LeavingTest v = new LeavingTest();
        due("18: the lambda is over", v.run(v.set(0, v.call(v.y.proc(v.block(v.y.proc(v.block(v.leave('r', v.n(1))), false)), true), 15)), v.tried(v.call(v.l(0), 15))), "d o4");
        LeavingTest w = new LeavingTest();
        due("18: another call of the same node is not that call", w.run(w.define(7, w.seq(w.y.orSet('c', 9, w.y.proc(w.block(w.y.yields(-1, -1)), false)), w.y.yields(-1, -1))),
                w.count(2, w.y.call(-1, 7, -1, -1, w.block(w.y.choice(w.call(w.l(0), 13, w.n(2)), w.tried(w.y.attempt(w.seq(w.set(0, w.n(7)), w.call(w.c(9), 15)), 11, 4, w.nil(), -1, -1)),
                        w.when(0, 7, w.leave('b', -1)))))), w.p(w.l(0))), "d o2 n7");
    }

    /** The node that is run is left like any other. */
    private static void outermost() {
        LeavingTest t = new LeavingTest();
        due("18: the loop that is run", t.runLimited(t.y.loop(t.n(1), t.seq(t.p(t.n(2)), t.leave('b', -1))), 50), "d n2");
        LeavingTest u = new LeavingTest();
        int call = u.y.call(u.seq(u.define(7, u.seq(u.y.yields(-1, -1), u.p(u.n(9)))), u.nil()), 7, -1, -1, u.block(u.leave('b', u.n(1))));
        due("18: the call that is run", u.runLimited(call, 50), "d");
        LeavingTest v = new LeavingTest();
        due("25: the catching that is run", v.runLimited(v.y.catches(v.n(1), v.seq(v.y.throwsTo(v.n(1), v.n(2)), v.p(v.n(3)))), 50), "d");
        LeavingTest w = new LeavingTest();
        due("22: the handler of what is run", w.runLimited(w.y.attempt(w.raises(), -1, 0, w.seq(w.y.attempt(w.y.raises(w.c(4)), -1, 1, w.p(w.call(w.l(1), 16)), -1, -1)), -1, -1), 50), "d o2");
        LeavingTest x = new LeavingTest();
        due("23: the last part of what is run", x.runLimited(x.y.attempt(x.leave('r', x.n(1)), -1, 0, x.nil(), -1, x.p(x.n(2))), 50), "d n2");
        LeavingTest z = new LeavingTest();
        due("23: constant 0", z.run(z.p(z.y.attempt(z.raises(), 0, 0, z.n(1), -1, -1)), z.y.setConstant(0, z.c(5)), z.y.attempt(z.raises(), 0, 0, z.n(1), -1, -1)), "e2 n1");
    }

    private static void raising() {
        LeavingTest t = new LeavingTest();
        due("22: a class, an object, others", t.run(t.type(6, 2, t.define(0, t.p(t.self()))), t.tried(t.y.raises(t.c(6))), t.tried(t.y.raises(t.fresh(3))), t.tried(t.y.raises(t.p(t.n(1)))),
                t.tried(t.y.raises(t.nil())), t.tried(t.y.raises(t.c(1))), t.y.raises(t.c(5))), "e5 o6 o6 o3 n1 o2 o2 o2");
        due("49: its class", t.y.raised(), 5);
        LeavingTest u = new LeavingTest();
        due("22: a class without Error above it", u.run(u.type(6, u.define(0, u.p(u.n(1)))), u.tried(u.y.raises(u.c(6))), u.type(7, 2, u.define(0, 1, u.nil())), u.tried(u.y.raises(u.c(7))),
                u.module(8, u.nil()), u.y.raises(u.c(8))), "e2 n1 o2 o2");
        LeavingTest v = new LeavingTest();
        due("22: as 14 does if no method is found for it", v.run(v.y.defineOn(v.c(3), 14, 0, -1, v.p(v.n(9))), v.tried(v.y.raises(v.c(3)))), "d o3");
        LeavingTest w = new LeavingTest();
        due("49: what was got is not raised", w.run(w.tried(w.y.raises(w.c(2)))), "d o2");
        due("49: did not end so", of(() -> w.y.raised()), "NoSuchElementException");
    }

    private static void trying() {
        LeavingTest t = new LeavingTest();
        due("23: the handler or the other part gives the value", t.run(t.p(t.y.attempt(t.n(1), -1, 0, t.n(2), t.n(3), t.n(4))), t.p(t.y.attempt(t.raises(), -1, 0, t.n(2), t.n(3), t.n(4))),
                t.p(t.l(0)), t.p(t.y.attempt(t.n(1), -1, 0, t.n(2), -1, t.n(4)))), "d n3 n2 o2 n1");
        LeavingTest u = new LeavingTest();
        due("23: its constant", u.run(u.p(u.y.attempt(u.y.raises(u.c(3)), 3, 0, u.n(1), -1, -1)), u.tried(u.y.attempt(u.y.raises(u.c(3)), 4, 0, u.p(u.n(9)), u.p(u.n(8)), u.p(u.n(2)))),
                u.module(6, u.nil()), u.type(7, 2, u.include(6)), u.p(u.y.attempt(u.y.raises(u.c(7)), 6, 0, u.n(3), -1, -1))), "d n1 n2 o3 n3");
        LeavingTest v = new LeavingTest();
        due("23: worked out then; no constant, or no class", v.run(v.p(v.y.attempt(v.n(1), 9, 0, v.n(2), -1, -1)), v.tried(v.y.attempt(v.y.raises(v.c(3)), 9, 0, v.p(v.n(2)), -1, v.p(v.n(3)))),
                v.p(v.y.attempt(v.seq(v.y.setConstant(9, v.c(4)), v.y.raises(v.c(4))), 9, 0, v.n(5), -1, -1)), v.y.setConstant(9, v.n(6)),
                v.tried(v.y.attempt(v.y.raises(v.c(3)), 9, 0, v.p(v.n(2)), -1, -1))), "d n1 n3 o2 n5 o2");
        LeavingTest w = new LeavingTest();
        due("23: Error stays what it was", w.run(w.y.setConstant(2, w.n(1)), w.p(w.y.attempt(w.y.raises(w.c(3)), -1, 0, w.n(4), -1, -1)), w.y.attempt(w.y.raises(w.c(3)), 2, 0, w.n(4), -1, -1)), "e2 n4");
        LeavingTest x = new LeavingTest();
        due("23: what the handler or the other part raises is not got", x.run(x.tried(x.y.attempt(x.raises(), -1, 0, x.y.raises(x.c(4)), -1, x.p(x.n(1)))),
                x.tried(x.y.attempt(x.n(1), -1, 0, x.p(x.n(9)), x.y.raises(x.c(5)), x.p(x.n(2))))), "d n1 o4 n2 o5");
        LeavingTest z = new LeavingTest();
        due("23: modules of the thing itself count", z.run(z.module(6, z.nil()), z.set(0, z.fresh(2)), z.y.mix('e', z.l(0), z.c(6)), z.p(z.y.attempt(z.y.raises(z.l(0)), 6, 1, z.n(1), -1, -1)),
                z.y.attempt(z.raises(), 6, 1, z.n(1), -1, -1)), "e2 n1");
    }

    private static void lastParts() {
        LeavingTest t = new LeavingTest();
        due("23: in the end, however it is left", t.run(t.p(t.y.attempt(t.p(t.n(1)), -1, 0, t.n(2), t.p(t.n(3)), t.p(t.n(4)))), t.tried(t.y.attempt(t.raises(), 3, 0, t.n(2), t.n(3), t.p(t.n(5)))),
                t.y.catches(t.n(1), t.y.attempt(t.y.throwsTo(t.n(1), t.n(2)), -1, 0, t.p(t.n(8)), t.p(t.n(9)), t.p(t.n(6))))), "d n1 n3 n4 n3 n5 o2 n6");
        LeavingTest u = new LeavingTest();
        due("23: if it raises itself, this counts", u.run(u.tried(u.y.attempt(u.raises(), 3, 0, u.n(1), -1, u.y.raises(u.c(5)))), u.tried(u.y.attempt(u.n(1), 3, 0, u.n(1), -1, u.y.raises(u.c(4))))), "d o5 o4");
        LeavingTest v = new LeavingTest();
        due("44: not behind the limit", v.runLimited(v.y.attempt(v.y.loop(v.n(1), v.n(1)), -1, 0, v.p(v.n(2)), -1, v.p(v.n(3))), 50), "l");
        due("45: the limit", v.y.steps(), 50);
    }

    private static void causes() {
        LeavingTest t = new LeavingTest();
        due("22: what the handler got is the cause", t.run(t.y.attempt(t.y.attempt(t.y.raises(t.c(3)), -1, 0, t.y.raises(t.c(4)), -1, -1), -1, 1, t.nil(), -1, -1),
                t.p(t.call(t.l(1), 16)), t.p(t.call(t.call(t.l(1), 16), 13, t.l(0))), t.p(t.call(t.l(0), 16))), "d o3 T N");
        LeavingTest u = new LeavingTest();
        due("22: not if it has one, or is that itself", u.run(u.y.attempt(u.y.attempt(u.y.raises(u.c(3)), -1, 0, u.y.raises(u.l(0)), -1, -1), -1, 1, u.nil(), -1, -1), u.p(u.call(u.l(1), 16)),
                u.y.attempt(u.y.attempt(u.y.raises(u.c(4)), -1, 0, u.y.raises(u.l(1)), -1, -1), -1, 2, u.nil(), -1, -1), u.p(u.call(u.l(1), 16)),
                u.y.attempt(u.y.attempt(u.y.raises(u.c(5)), -1, 0, u.y.raises(u.l(1)), -1, -1), -1, 2, u.nil(), -1, -1), u.p(u.call(u.l(1), 16))), "d N o4 o4");
        LeavingTest v = new LeavingTest();
        due("22: in a method that the handler calls, but not behind the handler", v.run(v.define(7, v.tried(v.y.raises(v.c(5)))), v.y.attempt(v.y.raises(v.c(3)), -1, 0, v.define(8, v.seq(v.y.attempt(v.send(9), -1, 1,
                v.p(v.call(v.l(1), 16)), -1, -1))), -1, -1), v.y.attempt(v.y.raises(v.c(4)), -1, 0, v.send(8), -1, v.y.attempt(v.send(9), -1, 1, v.p(v.call(v.l(1), 16)), -1, -1))), "d o4 N");
    }

    private static void retrying() {
        LeavingTest t = new LeavingTest();
        due("24: does the body again", t.run(t.set(0, t.n(0)), t.p(t.y.attempt(t.seq(t.p(t.set(0, t.call(t.l(0), 10, t.n(1)))), t.y.choice(t.call(t.l(0), 12, t.n(3)), t.raises(), -1), t.n(7)),
                -1, 1, t.seq(t.y.retry(), t.p(t.n(9))), t.n(8), t.p(t.n(5))))), "d n1 n2 n3 n5 n8");
        LeavingTest u = new LeavingTest();
        due("24: elsewhere", u.run(u.tried(u.y.retry()), u.tried(u.y.attempt(u.y.retry(), 3, 0, u.nil(), -1, -1)), u.tried(u.y.attempt(u.nil(), -1, 0, u.nil(), u.y.retry(), -1)),
                u.tried(u.y.attempt(u.raises(), -1, 0, u.nil(), -1, u.y.retry())), u.define(7, u.y.retry()), u.tried(u.y.attempt(u.raises(), -1, 0, u.send(7), -1, -1))), "d o4 o4 o4 o4 o4");
        LeavingTest v = new LeavingTest();
        due("24: out of a try in the handler, whose last part is done", v.run(v.set(0, v.n(0)), v.y.attempt(v.seq(v.p(v.set(0, v.call(v.l(0), 10, v.n(1)))), v.y.choice(v.call(v.l(0), 12, v.n(2)), v.raises(), -1)), -1, 1,
                v.y.attempt(v.y.retry(), -1, 2, v.p(v.n(9)), -1, v.p(v.n(4))), -1, -1)), "d n1 n4 n2");
        LeavingTest w = new LeavingTest();
        due("24: without an end", w.runLimited(w.y.attempt(w.raises(), -1, 0, w.y.retry(), -1, -1), 1000), "l");
    }

    private static void throwing() {
        LeavingTest t = new LeavingTest();
        due("25 26: the innermost one with the same tag", t.run(t.p(t.y.catches(t.n(1), t.seq(t.p(t.y.catches(t.y.message(1), t.seq(t.y.throwsTo(t.n(1), t.n(5)), t.p(t.n(9))))), t.p(t.n(8))))),
                t.p(t.y.catches(t.n(1), t.seq(t.p(t.y.catches(t.n(1), t.y.throwsTo(t.n(1), t.n(6)))), t.n(7))))), "d n5 n6 n7");
        LeavingTest u = new LeavingTest();
        due("26: none", u.run(u.tried(u.y.throwsTo(u.p(u.n(1)), u.p(u.n(2)))), u.y.catches(u.n(1), u.nil()), u.tried(u.y.throwsTo(u.n(1), u.n(2))), u.tried(u.y.catches(u.n(2), u.y.throwsTo(u.n(1), u.n(2))))),
                "d n1 n2 o4 o4 o4");
        LeavingTest v = new LeavingTest();
        due("26: out of methods, blocks and bodies", v.run(v.define(7, v.y.throwsTo(v.nil(), v.n(3))), v.p(v.y.catches(v.nil(), v.seq(v.send(7), v.p(v.n(9))))),
                v.p(v.y.catches(v.fresh(0), v.n(4))), v.p(v.y.catches(v.y.plain('T'), v.type(6, v.y.throwsTo(v.y.plain('T'), v.n(5)))))), "d n3 n4 n5");
        LeavingTest w = new LeavingTest();
        due("25: not while the tag is worked out", w.run(w.y.catches(w.y.throwsTo(w.n(1), w.n(1)), w.p(w.n(2)))), "e4");
        LeavingTest x = new LeavingTest();
        due("25: the same object", x.run(x.set(0, x.fresh(0)), x.p(x.y.catches(x.l(0), x.y.throwsTo(x.l(0), x.n(1)))), x.y.catches(x.l(0), x.y.throwsTo(x.fresh(0), x.n(1)))), "e4 n1");
    }
}
