/** The terms of the document, from blocks to throwing, sentence by sentence: what each one says of its edges. */
public final class FlowTermsTest extends Check {
    public static void main(String[] args) {
        parametersOfBlocks();
        yielding();
        procs();
        placesOfBlocks();
        breaksOfLoops();
        breaksElsewhere();
        nexts();
        returns();
        leavingInBodies();
        leavingWhatIsOver();
        valuesOfLeaving();
        raisedClasses();
        raisedThings();
        tries();
        constantsOfTries();
        retrying();
        otherParts();
        lastParts();
        lastPartsOnce();
        errorsAsValues();
        causes();
        throwing();
        end();
    }

    private int leave(char kind, int value) {
        return y.leave(kind, value);
    }

    private int yields(int... arguments) {
        return y.yields(arguments.length > 0 ? arguments[0] : -1, arguments.length > 1 ? arguments[1] : -1);
    }

    private int raises(int constant) {
        return y.raises(c(constant));
    }

    /** A try of Errors without other parts. */
    private int rescue(int body, int local, int handler) {
        return y.attempt(body, -1, local, handler, -1, -1);
    }

    /** A try whose body is followed by a last part alone. */
    private int ensure(int body, int last) {
        return y.attempt(body, 3, 5, nil(), -1, last);
    }

    /** Counts local 0 from 1 to a number, and does the body each time. */
    private int times(int most, int body) {
        return seq(set(0, n(0)), y.loop(call(set(0, call(l(0), 10, n(1))), 12, n(most + 1)), body));
    }

    private int when(int local, int value, int then) {
        return y.choice(call(l(local), 13, n(value)), then, -1);
    }

    private static void parametersOfBlocks() {
        for (int count = 0; count < 3; count++) {
            FlowTermsTest t = new FlowTermsTest();
            int[] told = new int[count];
            for (int i = 0; i < count; i++) {
                told[i] = t.n(i + 1);
            }
            due("Blocks: missing arguments are nil, further ones are left out, here of " + count, t.run(t.set(3, t.n(9)), t.set(4, t.n(9)), t.define(7, t.yields(told)),
                    t.give(7, t.y.block(2, 3, 4, t.seq(t.p(t.l(3)), t.p(t.l(4))))), t.p(t.l(3)), t.p(t.l(4))),
                    count == 0 ? "d N N n9 n9" : count == 1 ? "d n1 N n9 n9" : "d n1 n2 n9 n9");
            FlowTermsTest u = new FlowTermsTest();
            told = new int[count];
            for (int i = 0; i < count; i++) {
                told[i] = u.n(i + 1);
            }
            due("Blocks: with one parameter, here of " + count, u.run(u.set(3, u.n(9)), u.call(u.proc(u.block(3, u.p(u.l(3)))), 15, told), u.p(u.l(3))),
                    count == 0 ? "d N n9" : "d n1 n9");
            FlowTermsTest n = new FlowTermsTest();
            told = new int[count];
            for (int i = 0; i < count; i++) {
                told[i] = n.n(63);
            }
            due("Blocks: with none, here of " + count, n.run(n.set(0, n.n(9)), n.set(5, n.n(8)), n.call(n.proc(n.block(n.seq(n.p(n.l(0)), n.p(n.l(5)),
                    n.set(0, n.n(7))))), 15, told), n.p(n.l(0))), "d n9 n8 n7");
        }
        FlowTermsTest v = new FlowTermsTest();
        due("Blocks: parameters are locals of its own; all other locals are those around it", v.run(v.set(1, v.n(1)), v.set(2, v.n(2)),
                v.call(v.proc(v.block(1, v.seq(v.set(1, v.n(10)), v.set(2, v.n(20)), v.set(3, v.n(30)), v.p(v.l(1))))), 15), v.p(v.l(1)), v.p(v.l(2)), v.p(v.l(3))),
                "d n10 n1 n20 n30");
        FlowTermsTest w = new FlowTermsTest();
        due("Blocks: each call of it has its own parameters", w.run(w.set(2, w.proc(w.block(1, w.lambda(w.block(w.set(1, w.call(w.l(1), 10, w.n(1)))))))),
                w.set(3, w.call(w.l(2), 15, w.n(1))), w.set(4, w.call(w.l(2), 15, w.n(10))), w.call(w.l(3), 15), w.p(w.call(w.l(3), 15)), w.p(w.call(w.l(4), 15))),
                "d n3 n11");
    }

    private static void yielding() {
        FlowTermsTest t = new FlowTermsTest();
        due("Blocks: yielding without a block", t.run(t.define(7, t.yields()), t.tried(t.send(7)), t.tried(t.yields()), t.tried(t.give(13, t.block(t.n(1)))),
                t.tried(t.yields())), "d o4 o4 o4");
        FlowTermsTest u = new FlowTermsTest();
        due("Blocks: yielding calls the block of the method around it, not that of a call in it", u.run(u.define(8, u.yields()),
                u.define(7, u.seq(u.give(8, u.block(u.p(u.n(1)))), u.yields())), u.give(7, u.block(u.p(u.n(2)))), u.tried(u.send(7))), "d n1 n2 n1 o4");
        FlowTermsTest v = new FlowTermsTest();
        due("Blocks: in a body in a method there is no method around", v.run(v.define(7, v.type(6, v.yields())), v.tried(v.give(7, v.block(v.p(v.n(1)))))), "d o4");
        FlowTermsTest w = new FlowTermsTest();
        due("Blocks: yielding gives what the block gives", w.run(w.define(7, w.p(w.yields())), w.p(w.give(7, w.block(w.n(3)))), w.p(w.give(7, w.block(w.nil())))),
                "d n3 n3 N N");
    }

    private static void procs() {
        for (int parameters = 0; parameters < 3; parameters++) {
            for (int count = 0; count < 3; count++) {
                FlowTermsTest t = new FlowTermsTest();
                int[] told = new int[count];
                for (int i = 0; i < count; i++) {
                    told[i] = t.n(1);
                }
                due("Blocks: a lambda of " + parameters + ", told " + count, t.run(t.tried(t.call(t.lambda(t.y.block(parameters, 0, 1, t.p(t.n(2)))), 15, told))),
                        parameters == count ? "d n2" : "d o2");
                FlowTermsTest u = new FlowTermsTest();
                told = new int[count];
                for (int i = 0; i < count; i++) {
                    told[i] = u.n(1);
                }
                due("Blocks: a proc of " + parameters + ", told " + count, u.run(u.tried(u.call(u.proc(u.y.block(parameters, 0, 1, u.p(u.n(2)))), 15, told))), "d n2");
            }
        }
    }

    private static void placesOfBlocks() {
        FlowTermsTest t = new FlowTermsTest();
        due("Blocks: self and constants as at the place where it was made", t.run(t.define(9, t.yields()),
                t.type(6, t.seq(t.y.setConstant(9, t.n(6)), t.define(7, t.lambda(t.block(t.seq(t.p(t.self()), t.p(t.c(9)))))))),
                t.type(8, t.seq(t.y.setConstant(9, t.n(8)), t.define(7, 1, t.call(t.l(0), 15)))), t.call(t.fresh(8), 7, t.call(t.fresh(6), 7))), "d o6 n6");
        FlowTermsTest u = new FlowTermsTest();
        due("Blocks: the method around it as at the place where it was made", u.run(u.define(7, 1, u.lambda(u.block(u.seq(u.p(u.l(0)), u.yields(u.n(3)))))),
                u.set(1, u.y.call(-1, 7, u.n(1), -1, u.block(2, u.p(u.l(2))))), u.define(8, 1, u.call(u.l(0), 15)),
                u.y.call(-1, 8, u.l(1), -1, u.block(u.p(u.n(9))))), "d n1 n3");
    }

    private static void breaksOfLoops() {
        FlowTermsTest t = new FlowTermsTest();
        due("Leaving: b leaves the innermost loop, with nil", t.run(t.p(t.times(2, t.seq(t.y.loop(t.n(1), t.seq(t.leave('b', t.p(t.n(7))), t.p(t.n(8)))), t.p(t.l(0)))))),
                "d n7 n1 n7 n2 N");
        FlowTermsTest u = new FlowTermsTest();
        due("Leaving: its condition included", u.run(u.p(u.y.loop(u.leave('b', u.n(1)), u.p(u.n(2)))),
                u.times(2, u.seq(u.y.loop(u.leave('b', -1), u.nil()), u.p(u.l(0))))), "d N n1 n2");
        FlowTermsTest v = new FlowTermsTest();
        due("Leaving: a loop around the method, block or body is not in the same one", v.run(v.define(7, v.leave('b', -1)), v.define(8, v.yields()),
                v.times(1, v.seq(v.tried(v.send(7)), v.p(v.give(8, v.block(v.leave('b', v.n(5))))), v.tried(v.type(6, v.leave('b', -1))), v.p(v.l(0))))),
                "d o4 n5 o4 n1");
        FlowTermsTest w = new FlowTermsTest();
        due("Leaving: in a handler, in an other part and in a last part of the same method", w.run(w.times(9, w.rescue(w.raises(2), 1, w.leave('b', -1))), w.p(w.l(0)),
                w.times(9, w.y.attempt(w.nil(), -1, 1, w.nil(), w.leave('b', -1), -1)), w.p(w.l(0)),
                w.times(9, w.ensure(w.nil(), w.leave('b', -1))), w.p(w.l(0)), w.times(9, w.tried(w.ensure(w.raises(2), w.leave('b', -1)))), w.p(w.l(0))),
                        "d n1 n1 n1 n1");
    }

    private static void breaksElsewhere() {
        FlowTermsTest t = new FlowTermsTest();
        due("Leaving: b leaves a lambda, with the value", t.run(t.p(t.call(t.lambda(t.block(t.seq(t.leave('b', t.n(1)), t.p(t.n(9))))), 15))), "d n1");
        FlowTermsTest u = new FlowTermsTest();
        due("Leaving: b leaves the call to which the block was given, with the value", u.run(u.define(7, u.seq(u.yields(), u.p(u.n(9)))),
                u.p(u.give(7, u.block(u.leave('b', u.n(2)))))), "d n2");
        FlowTermsTest v = new FlowTermsTest();
        due("Leaving: that call, also where another method got the block from it", v.run(v.define(8, v.seq(v.yields(), v.p(v.n(9)))),
                v.define(7, v.seq(v.give(8, v.block(v.yields())), v.p(v.n(8)))), v.p(v.give(7, v.block(v.leave('b', v.n(3)))))), "d n3");
        FlowTermsTest w = new FlowTermsTest();
        due("Leaving: elsewhere b raises a new Broken", w.run(w.tried(w.leave('b', w.n(1))), w.define(7, w.leave('b', w.n(1))), w.tried(w.send(7)),
                w.tried(w.type(6, w.leave('b', -1))), w.tried(w.call(w.proc(w.block(w.leave('b', w.n(1)))), 15)),
                w.y.define(8, 0, w.leave('b', -1), w.nil()), w.tried(w.send(8))), "d o4 o4 o4 o4 o4");
        FlowTermsTest x = new FlowTermsTest();
        due("Leaving: b in a block in a lambda leaves the call, not the lambda", x.run(x.define(7, x.seq(x.yields(), x.p(x.n(9)))),
                x.p(x.call(x.lambda(x.block(x.seq(x.p(x.give(7, x.block(x.leave('b', x.n(1))))), x.n(2)))), 15))), "d n1 n2");
    }

    private static void nexts() {
        FlowTermsTest t = new FlowTermsTest();
        due("Leaving: n goes on with the next turn, where the condition is worked out again", t.run(t.p(t.times(3,
                t.seq(t.when(0, 2, t.leave('n', t.n(1))), t.p(t.l(0)))))), "d n1 n3 N");
        FlowTermsTest u = new FlowTermsTest();
        due("Leaving: n in the condition", u.run(u.set(0, u.n(0)), u.y.loop(u.seq(u.set(0, u.call(u.l(0), 10, u.n(1))), u.when(0, 1, u.leave('n', -1)),
                u.call(u.l(0), 12, u.n(3))), u.p(u.l(0)))), "d n2");
        FlowTermsTest v = new FlowTermsTest();
        due("Leaving: n leaves a block, a proc or a lambda, with the value", v.run(v.define(7, v.p(v.yields())),
                v.p(v.give(7, v.block(v.seq(v.leave('n', v.n(1)), v.p(v.n(9)))))), v.p(v.call(v.proc(v.block(v.seq(v.leave('n', v.n(2)), v.p(v.n(9))))), 15)),
                v.p(v.call(v.lambda(v.block(v.seq(v.leave('n', v.n(3)), v.p(v.n(9))))), 15)), v.p(v.call(v.lambda(v.block(v.leave('n', -1))), 15))), "d n1 n1 n2 n3 N");
        FlowTermsTest w = new FlowTermsTest();
        due("Leaving: elsewhere n raises a new Broken", w.run(w.tried(w.leave('n', -1)), w.define(7, w.leave('n', w.n(1))), w.tried(w.send(7)),
                w.times(1, w.tried(w.send(7))), w.tried(w.module(6, w.leave('n', -1)))), "d o4 o4 o4 o4");
    }

    private static void returns() {
        FlowTermsTest t = new FlowTermsTest();
        due("Leaving: r leaves the innermost lambda", t.run(t.define(7, t.seq(t.p(t.call(t.lambda(t.block(t.seq(t.call(t.lambda(t.block(t.leave('r', t.n(1)))), 15),
                t.leave('r', t.n(2)), t.p(t.n(9))))), 15)), t.n(3))), t.p(t.send(7))), "d n2 n3");
        FlowTermsTest u = new FlowTermsTest();
        due("Leaving: or the method, out of loops, blocks and procs", u.run(u.define(8, u.yields()), u.define(7,
                u.seq(u.give(8, u.block(u.call(u.proc(u.block(u.y.loop(u.n(1), u.leave('r', u.n(1))))), 15))), u.p(u.n(9)))), u.p(u.send(7))), "d n1");
        FlowTermsTest v = new FlowTermsTest();
        due("Leaving: a lambda around a block comes before the method", v.run(v.define(8, v.yields()),
                v.define(7, v.seq(v.p(v.call(v.lambda(v.block(v.seq(v.give(8, v.block(v.leave('r', v.n(1)))), v.p(v.n(9))))), 15)), v.n(2))), v.p(v.send(7))), "d n1 n2");
        FlowTermsTest w = new FlowTermsTest();
        due("Leaving: elsewhere the whole program", w.run(w.p(w.n(1)), w.leave('r', w.n(2)), w.p(w.n(3))), "d n1");
        FlowTermsTest x = new FlowTermsTest();
        due("Leaving: out of a proc at the top, too, whose last parts are done", x.run(x.ensure(x.call(x.proc(x.block(x.leave('r', -1))), 15), x.p(x.n(1))), x.p(x.n(2))),
                "d n1");
        FlowTermsTest z = new FlowTermsTest();
        due("Leaving: in the default of a parameter", z.run(z.y.define(7, 0, z.leave('r', z.n(1)), z.p(z.n(9))), z.p(z.send(7)),
                z.y.define(8, 0, z.seq(z.y.loop(z.n(1), z.leave('b', -1)), z.n(2)), z.l(0)), z.p(z.send(8))), "d n1 n2");
    }

    private static void leavingInBodies() {
        FlowTermsTest t = new FlowTermsTest();
        due("Leaving: the method around a body is not around what is in it", t.run(t.define(7, t.seq(t.type(6, t.seq(t.p(t.n(1)), t.leave('r', t.n(2)))), t.p(t.n(3)))),
                t.send(7), t.p(t.n(4))), "d n1");
        FlowTermsTest u = new FlowTermsTest();
        due("Leaving: neither the lambda, nor the block, nor the loop", u.run(u.define(8, u.yields()),
                u.tried(u.call(u.lambda(u.block(u.module(6, u.leave('b', -1)))), 15)), u.tried(u.give(8, u.block(u.module(6, u.leave('n', -1))))),
                u.times(1, u.tried(u.module(6, u.leave('n', -1)))),
                u.call(u.lambda(u.block(u.module(6, u.leave('r', -1)))), 15), u.p(u.n(9))), "d o4 o4 o4");
        FlowTermsTest v = new FlowTermsTest();
        due("Leaving: in a block in a body r leaves the whole program", v.run(v.define(8, v.yields()),
                v.define(7, v.seq(v.type(6, v.y.call(v.nil(), 8, -1, -1, v.block(v.leave('r', -1)))), v.p(v.n(1)))), v.send(7), v.p(v.n(2))), "d");
        FlowTermsTest w = new FlowTermsTest();
        due("Leaving: the locals around a body are not around what is in it", w.run(w.set(0, w.n(1)),
                w.type(6, w.seq(w.p(w.l(0)), w.set(0, w.n(2)), w.call(w.proc(w.block(w.p(w.l(0)))), 15))), w.p(w.l(0))), "d N n2 n1");
        FlowTermsTest x = new FlowTermsTest();
        due("Leaving: but classes and modules are", x.run(x.module(6, x.seq(x.y.setConstant(9, x.n(1)), x.type(7, x.p(x.c(9)))))), "d n1");
        FlowTermsTest z = new FlowTermsTest();
        due("Leaving: a loop, a lambda and a method in a body are", z.run(z.type(6, z.seq(z.y.loop(z.n(1), z.leave('b', -1)),
                z.p(z.call(z.lambda(z.block(z.leave('r', z.n(1)))), 15)), z.define(7, z.leave('r', z.n(2))))), z.p(z.call(z.fresh(6), 7))), "d n1 n2");
    }

    private static void leavingWhatIsOver() {
        FlowTermsTest t = new FlowTermsTest();
        due("Leaving: the method is over", t.run(t.define(7, t.proc(t.block(t.leave('r', t.n(1))))), t.set(0, t.send(7)), t.tried(t.call(t.l(0), 15)),
                t.define(8, 1, t.seq(t.tried(t.call(t.l(0), 15)), t.n(2))), t.p(t.send(8, t.l(0)))), "d o4 o4 n2");
        FlowTermsTest u = new FlowTermsTest();
        due("Leaving: the call is over", u.run(u.define(7, u.lambda(u.block(u.yields()))), u.set(0, u.give(7, u.block(u.leave('b', u.n(1))))),
                u.tried(u.call(u.l(0), 15))), "d o4");
        FlowTermsTest v = new FlowTermsTest();
        due("Leaving: the lambda is over", v.run(v.set(0, v.call(v.lambda(v.block(v.proc(v.block(v.leave('r', v.n(1)))))), 15)), v.tried(v.call(v.l(0), 15))), "d o4");
        FlowTermsTest w = new FlowTermsTest();
        due("Leaving: another call of the same method is not that one", w.run(w.define(7, 1, w.y.choice(w.l(0), w.seq(w.tried(w.call(w.l(0), 15)), w.n(2)),
                w.proc(w.block(w.leave('r', w.n(1)))))), w.p(w.send(7, w.send(7, w.nil())))), "d o4 n2");
        FlowTermsTest x = new FlowTermsTest();
        due("Leaving: while it is on, it is left, from however deep", x.run(x.define(8, 1, x.seq(x.call(x.l(0), 15), x.p(x.n(9)))),
                x.define(7, x.seq(x.send(8, x.proc(x.block(x.leave('r', x.n(1))))), x.p(x.n(8)))), x.p(x.send(7))), "d n1");
    }

    private static void valuesOfLeaving() {
        FlowTermsTest t = new FlowTermsTest();
        due("Leaving: what is left gives the value that is told, or nil", t.run(t.define(7, t.leave('r', -1)), t.define(8, t.leave('r', t.self())), t.p(t.send(7)),
                t.p(t.call(t.n(5), 8)), t.define(9, t.yields()), t.p(t.give(9, t.block(t.leave('b', -1)))), t.p(t.give(9, t.block(t.leave('n', -1))))), "d N n5 N N");
        FlowTermsTest u = new FlowTermsTest();
        due("Leaving: the value is worked out before", u.run(u.define(7, u.leave('r', u.seq(u.p(u.n(1)), u.leave('r', u.n(2))))), u.p(u.send(7)),
                u.tried(u.leave('b', u.p(u.n(3)))), u.tried(u.leave('n', u.c(6)))), "d n1 n2 n3 o4 o2");
    }

    private static void raisedClasses() {
        FlowTermsTest t = new FlowTermsTest();
        due("Raising: a raised class makes an object of it, without arguments", t.run(t.type(6, 2, t.y.define(0, 0, t.n(1), t.seq(t.p(t.self()), t.p(t.l(0))))),
                t.tried(t.raises(6)), t.type(7, 2, t.define(0, 1, t.nil())), t.tried(t.raises(7)), t.raises(5)), "e5 o6 n1 o6 o2");
        FlowTermsTest u = new FlowTermsTest();
        due("Raising: as if no method were found for 14", u.run(u.y.defineOn(u.c(3), 14, 0, -1, u.p(u.n(9))), u.tried(u.raises(3))), "d o3");
        FlowTermsTest v = new FlowTermsTest();
        due("Raising: but Number", v.run(v.define(0, v.p(v.n(1))), v.tried(v.raises(1)), v.type(6, 1, v.nil()), v.tried(v.raises(6))), "d o2 n1 o2");
        FlowTermsTest w = new FlowTermsTest();
        due("Raising: 0 that raises itself", w.run(w.type(6, 2, w.define(0, w.raises(4))), w.tried(w.raises(6))), "d o4");
    }

    private static void raisedThings() {
        FlowTermsTest t = new FlowTermsTest();
        due("Raising: a thing that has not Error in its lineage is a new Error instead", t.run(t.module(6, t.nil()), t.tried(t.y.raises(t.nil())),
                t.tried(t.y.raises(t.n(1))), t.tried(t.y.raises(t.message(1))), t.tried(t.y.raises(t.yes())), t.tried(t.y.raises(t.fresh(0))), t.tried(t.raises(0)),
                t.tried(t.raises(6)),
                t.tried(t.y.raises(t.proc(t.block(t.nil()))))), "d o2 o2 o2 o2 o2 o2 o2 o2");
        FlowTermsTest u = new FlowTermsTest();
        due("Raising: an object that has it stays itself", u.run(u.type(6, 5, u.nil()), u.set(0, u.fresh(6)),
                u.rescue(u.y.raises(u.l(0)), 1, u.p(u.call(u.l(0), 13, u.l(1)))), u.y.raises(u.l(0))), "e6 T");
    }

    private static void tries() {
        FlowTermsTest t = new FlowTermsTest();
        due("Raising: a try gets what is raised in its body, also out of methods, blocks and bodies",
                t.run(t.define(7, t.raises(3)), t.p(t.rescue(t.send(7), 0, t.n(1))), t.p(t.rescue(t.call(t.lambda(t.block(t.raises(3))), 15), 0, t.n(2))),
                t.p(t.rescue(t.type(6, t.raises(3)), 0, t.n(3)))), "d n1 n2 n3");
        FlowTermsTest u = new FlowTermsTest();
        due("Raising: the local gets it and the handler gives the value", u.run(u.p(u.rescue(u.seq(u.raises(4), u.p(u.n(9))), 3, u.seq(u.p(u.l(3)), u.n(1)))),
                u.p(u.l(3))), "d o4 n1 o4");
        FlowTermsTest v = new FlowTermsTest();
        due("Raising: in a block, the local is that of the block or the one around", v.run(v.call(v.proc(v.block(1,
                v.seq(v.rescue(v.raises(4), 1, v.nil()), v.rescue(v.raises(5), 2, v.nil()), v.p(v.l(1))))), 15), v.p(v.l(1)), v.p(v.l(2))), "d o4 N o5");
        FlowTermsTest w = new FlowTermsTest();
        due("Raising: what is raised in the handler, the other part or the last part is not got", w.run(w.tried(w.rescue(w.raises(2), 0, w.raises(3))),
                w.tried(w.y.attempt(w.nil(), -1, 0, w.p(w.n(9)), w.raises(4), -1)), w.tried(w.y.attempt(w.nil(), -1, 0, w.p(w.n(9)), -1, w.raises(5)))), "d o3 o4 o5");
        FlowTermsTest x = new FlowTermsTest();
        due("Raising: the innermost one that gets it", x.run(x.p(x.rescue(x.y.attempt(x.raises(4), 3, 0, x.n(1), -1, -1), 0, x.n(2))),
                x.p(x.rescue(x.y.attempt(x.raises(3), 3, 0, x.n(3), -1, -1), 0, x.n(4)))), "d n2 n3");
    }

    private static void constantsOfTries() {
        FlowTermsTest t = new FlowTermsTest();
        due("Raising: the class or module that its constant gives has to be in the lineage", t.run(t.module(9, t.nil()), t.type(6, 2, t.include(9)),
                t.p(t.y.attempt(t.raises(6), 9, 0, t.n(1), -1, -1)), t.p(t.y.attempt(t.raises(6), 2, 0, t.n(2), -1, -1)),
                t.p(t.y.attempt(t.raises(6), 0, 0, t.n(3), -1, -1)),
                t.p(t.y.attempt(t.raises(6), 6, 0, t.n(4), -1, -1)), t.tried(t.y.attempt(t.raises(2), 9, 0, t.p(t.n(5)), -1, -1)),
                        t.tried(t.y.attempt(t.raises(6), 1, 0, t.p(t.n(6)), -1, -1))), "d n1 n2 n3 n4 o2 o7");
        FlowTermsTest u = new FlowTermsTest();
        due("Raising: worked out then", u.run(u.p(u.y.attempt(u.seq(u.y.setConstant(9, u.c(4)), u.raises(4)), 9, 0, u.n(1), -1, -1)),
                u.p(u.y.attempt(u.n(2), 10, 0, u.n(3), -1, -1))), "d n1 n2");
        FlowTermsTest v = new FlowTermsTest();
        due("Raising: what is no class or module, or no constant, raises a new Error in place of it",
                v.run(v.y.setConstant(9, v.n(1)), v.y.setConstant(10, v.nil()), v.tried(v.y.attempt(v.raises(4), 9, 0, v.p(v.n(9)), v.p(v.n(8)), v.p(v.n(1)))),
                v.tried(v.y.attempt(v.raises(4), 10, 0, v.p(v.n(9)), -1, -1)),
                v.tried(v.y.attempt(v.raises(4), 11, 0, v.p(v.n(9)), -1, v.p(v.n(2))))), "d n1 o2 o2 n2 o2");
        FlowTermsTest w = new FlowTermsTest();
        due("Raising: or Error, whatever is the constant 2", w.run(w.y.setConstant(2, w.c(5)), w.p(w.rescue(w.raises(4), 0, w.n(1))),
                w.tried(w.y.attempt(w.raises(4), 2, 0, w.n(9), -1, -1))), "d n1 o4");
        FlowTermsTest x = new FlowTermsTest();
        due("Raising: the constant is that of the place where the try stands", x.run(x.define(7, x.raises(4)),
                x.type(6, x.seq(x.y.setConstant(9, x.c(4)), x.define(8, x.y.attempt(x.send(7), 9, 0, x.n(1), -1, -1)))), x.p(x.call(x.fresh(6), 8)),
                x.tried(x.y.attempt(x.send(7), 9, 0, x.n(9), -1, -1))), "d n1 o2");
    }

    private static void retrying() {
        FlowTermsTest t = new FlowTermsTest();
        due("Raising: retrying, in the handler, does the body again", t.run(t.set(0, t.n(0)), t.p(t.y.attempt(t.seq(t.p(t.set(0, t.call(t.l(0), 10, t.n(1)))),
                t.y.choice(t.call(t.l(0), 12, t.n(3)), t.raises(2), t.n(7))), -1, 1, t.seq(t.y.retry(), t.p(t.n(9))), t.p(t.n(8)), t.p(t.n(6))))), "d n1 n2 n3 n8 n6 n8");
        FlowTermsTest u = new FlowTermsTest();
        due("Raising: out of a loop and a try in the handler", u.run(u.set(0, u.n(0)), u.rescue(u.seq(u.p(u.set(0, u.call(u.l(0), 10, u.n(1)))),
                u.y.choice(u.call(u.l(0), 12, u.n(2)), u.raises(2), -1)), 1, u.y.loop(u.n(1), u.ensure(u.y.retry(), u.p(u.n(5)))))), "d n1 n5 n2");
        FlowTermsTest v = new FlowTermsTest();
        due("Raising: the innermost handler", v.run(v.set(0, v.n(0)), v.rescue(v.seq(v.p(v.n(1)), v.raises(2)), 1,
                v.rescue(v.seq(v.p(v.set(0, v.call(v.l(0), 10, v.n(1)))), v.y.choice(v.call(v.l(0), 12, v.n(12)), v.raises(2), -1)), 2, v.y.retry()))),
                "d n1 n1 n2 n3 n4 n5 n6 n7 n8 n9 n10 n11 n12");
        FlowTermsTest w = new FlowTermsTest();
        due("Raising: elsewhere it raises a new Broken", w.run(w.tried(w.y.retry()), w.tried(w.y.attempt(w.y.retry(), 3, 0, w.nil(), -1, -1)),
                w.tried(w.y.attempt(w.nil(), -1, 0, w.nil(), w.y.retry(), -1)), w.tried(w.y.attempt(w.nil(), -1, 0, w.nil(), -1, w.y.retry())),
                w.tried(w.rescue(w.raises(2), 0, w.type(6, w.y.retry()))), w.define(7, w.y.retry()), w.tried(w.rescue(w.raises(2), 0, w.send(7)))),
                        "d o4 o4 o4 o4 o4 o4");
    }

    private static void otherParts() {
        FlowTermsTest t = new FlowTermsTest();
        due("Raising: the other part is done if nothing was raised, and gives the value", t.run(t.p(t.y.attempt(t.p(t.n(1)), -1, 0, t.p(t.n(9)), t.n(2), -1)),
                t.p(t.y.attempt(t.raises(2), -1, 0, t.n(3), t.p(t.n(9)), -1)), t.tried(t.y.attempt(t.raises(2), 3, 0, t.p(t.n(9)), t.p(t.n(9)), -1))), "d n1 n2 n3 o2");
        FlowTermsTest u = new FlowTermsTest();
        due("Raising: not if the body is left", u.run(u.define(7, u.y.attempt(u.leave('r', u.n(1)), -1, 0, u.p(u.n(9)), u.p(u.n(9)), -1)), u.p(u.send(7)),
                u.p(u.y.catches(u.n(1), u.y.attempt(u.y.throwsTo(u.n(1), u.n(2)), -1, 0, u.p(u.n(9)), u.p(u.n(9)), -1)))), "d n1 n2");
    }

    private static void lastParts() {
        FlowTermsTest t = new FlowTermsTest();
        due("Raising: the last part is done in the end, and gives no value", t.run(t.p(t.y.attempt(t.p(t.n(1)), -1, 0, t.n(9), -1, t.p(t.n(2)))),
                t.p(t.y.attempt(t.raises(2), -1, 0, t.p(t.n(3)), -1, t.p(t.n(4)))), t.p(t.y.attempt(t.nil(), -1, 0, t.n(9), t.p(t.n(5)), t.p(t.n(6))))),
                "d n1 n2 n1 n3 n4 n3 n5 n6 n5");
        FlowTermsTest u = new FlowTermsTest();
        due("Raising: however it is left", u.run(u.tried(u.ensure(u.raises(2), u.p(u.n(1)))), u.define(7, u.ensure(u.leave('r', u.n(7)), u.p(u.n(2)))), u.p(u.send(7)),
                u.p(u.y.catches(u.n(1), u.ensure(u.y.throwsTo(u.n(1), u.n(8)), u.p(u.n(3))))), u.times(2, u.ensure(u.leave('n', -1), u.p(u.n(4)))),
                u.times(2, u.ensure(u.leave('b', -1), u.p(u.n(5)))), u.tried(u.y.attempt(u.raises(2), -1, 0, u.raises(4), -1, u.p(u.n(6))))),
                        "d n1 o2 n2 n7 n3 n8 n4 n4 n5 n6 o4");
        FlowTermsTest v = new FlowTermsTest();
        due("Raising: if it leaves or raises itself, this counts", v.run(v.define(7, v.ensure(v.leave('r', v.n(1)), v.leave('r', v.n(2)))), v.p(v.send(7)),
                v.define(8, v.ensure(v.raises(2), v.leave('r', v.n(3)))), v.p(v.send(8)), v.tried(v.ensure(v.raises(2), v.raises(4))),
                v.define(9, v.ensure(v.leave('r', v.n(1)), v.raises(5))),
                v.tried(v.send(9)), v.p(v.y.catches(v.n(1), v.ensure(v.raises(2), v.y.throwsTo(v.n(1), v.n(4))))), v.times(3, v.ensure(v.raises(2), v.leave('n', -1))),
                        v.p(v.l(0))), "d n2 n3 o4 o5 n4 n4");
        FlowTermsTest w = new FlowTermsTest();
        due("Raising: from the inside out", w.run(w.tried(w.ensure(w.ensure(w.raises(4), w.p(w.n(1))), w.p(w.n(2)))),
                w.ensure(w.ensure(w.leave('r', w.n(1)), w.p(w.n(3))), w.p(w.n(4)))), "d n1 n2 o4 n3 n4");
        FlowTermsTest x = new FlowTermsTest();
        int endless = x.ensure(x.y.loop(x.n(1), x.n(1)), x.p(x.n(1)));
        due("Raising: not where the run ends at its limit", x.runLimited(endless, 100), "l");
    }

    private static void lastPartsOnce() {
        FlowTermsTest t = new FlowTermsTest();
        due("Raising: a last part that leaves or raises itself is done once", t.run(t.tried(t.ensure(t.nil(), t.seq(t.p(t.n(1)), t.raises(5)))),
                t.tried(t.ensure(t.raises(2), t.seq(t.p(t.n(2)), t.raises(4)))), t.define(7, t.ensure(t.n(1), t.seq(t.p(t.n(3)), t.leave('r', t.n(4))))), t.p(t.send(7)),
                t.define(8, t.ensure(t.leave('r', t.n(1)), t.seq(t.p(t.n(5)), t.leave('r', t.n(6))))), t.p(t.send(8))), "d n1 o5 n2 o4 n3 n4 n5 n6");
    }

    /** What is left or thrown through a try is not raised, even if it is an Error. */
    private static void errorsAsValues() {
        FlowTermsTest t = new FlowTermsTest();
        due("Raising: an Error that is given by leaving or throwing is not got", t.run(t.define(7, t.rescue(t.leave('r', t.fresh(2)), 0, t.p(t.n(9)))), t.p(t.send(7)),
                t.p(t.y.catches(t.n(1), t.rescue(t.y.throwsTo(t.n(1), t.fresh(3)), 0, t.p(t.n(9))))),
                t.p(t.y.attempt(t.fresh(4), -1, 0, t.p(t.n(9)), -1, -1)), t.define(8, t.y.attempt(t.leave('r', t.n(1)), 11, 0, t.p(t.n(9)), -1, -1)), t.p(t.send(8))),
                        "d o2 o3 o4 n1");
    }

    private static void causes() {
        FlowTermsTest t = new FlowTermsTest();
        due("Raising: what is raised anew while a handler is done has what it got as its cause", t.run(t.rescue(t.rescue(t.raises(3), 0, t.raises(4)), 1, t.nil()),
                t.same(t.call(t.l(1), 16), t.l(0)), t.p(t.call(t.l(0), 16)), t.rescue(t.rescue(t.raises(3), 0, t.send(9)), 1, t.nil()),
                t.same(t.call(t.l(1), 16), t.l(0))), "d T N T");
        FlowTermsTest u = new FlowTermsTest();
        due("Raising: if it has none", u.run(u.rescue(u.rescue(u.raises(3), 0, u.raises(4)), 1, u.nil()),
                u.rescue(u.rescue(u.raises(5), 2, u.y.raises(u.l(1))), 3, u.nil()), u.same(u.l(1), u.l(3)), u.same(u.call(u.l(1), 16), u.l(0))), "d T T");
        FlowTermsTest v = new FlowTermsTest();
        due("Raising: and is not that itself", v.run(v.rescue(v.rescue(v.raises(3), 0, v.y.raises(v.l(0))), 1, v.nil()), v.same(v.l(0), v.l(1)), v.p(v.call(v.l(1), 16))),
                "d T N");
        FlowTermsTest w = new FlowTermsTest();
        due("Raising: not in the body, the other part or the last part", w.run(w.rescue(w.y.attempt(w.raises(3), -1, 0, w.nil(), -1, w.raises(4)), 1, w.nil()),
                w.p(w.call(w.l(1), 16)), w.rescue(w.y.attempt(w.nil(), -1, 0, w.nil(), w.raises(4), -1), 1, w.nil()), w.p(w.call(w.l(1), 16)),
                w.rescue(w.raises(3), 0, w.nil()),
                w.rescue(w.raises(4), 1, w.nil()), w.p(w.call(w.l(1), 16))), "d N N N");
        FlowTermsTest x = new FlowTermsTest();
        due("Raising: of handlers in one another that of the innermost", x.run(x.rescue(x.rescue(x.raises(3), 0, x.rescue(x.raises(4), 1, x.raises(5))), 2, x.nil()),
                x.same(x.call(x.l(2), 16), x.l(1)), x.same(x.call(x.l(1), 16), x.l(0))), "d T T");
    }

    private int same(int thing, int other) {
        return p(call(thing, 13, other));
    }

    private static void throwing() {
        FlowTermsTest t = new FlowTermsTest();
        due("Throwing: leaves the innermost catching with the same tag, which gives the value", t.run(t.p(t.y.catches(t.n(1),
                t.seq(t.p(t.y.catches(t.n(1), t.seq(t.y.throwsTo(t.n(1), t.n(5)), t.p(t.n(9))))), t.n(6)))),
                t.p(t.y.catches(t.n(1), t.seq(t.y.catches(t.n(2), t.y.throwsTo(t.n(1), t.n(7))), t.p(t.n(9)))))),
                "d n5 n6 n7");
        FlowTermsTest u = new FlowTermsTest();
        due("Throwing: a new Broken if there is none", u.run(u.tried(u.y.throwsTo(u.n(1), u.n(2))), u.tried(u.y.catches(u.message(1), u.y.throwsTo(u.n(1), u.n(2)))),
                u.y.catches(u.n(1), u.nil()), u.tried(u.y.throwsTo(u.n(1), u.n(2))), u.tried(u.y.catches(u.y.throwsTo(u.nil(), u.nil()), u.p(u.n(9)))),
                u.tried(u.y.catches(u.fresh(0), u.y.throwsTo(u.fresh(0), u.nil())))), "d o4 o4 o4 o4 o4");
        FlowTermsTest v = new FlowTermsTest();
        due("Throwing: out of methods, lambdas, loops and bodies", v.run(v.define(7, v.y.loop(v.n(1),
                v.type(6, v.call(v.lambda(v.block(v.y.throwsTo(v.yes(), v.n(3)))), 15)))), v.p(v.y.catches(v.yes(), v.seq(v.send(7), v.p(v.n(9))))), v.p(v.n(4))),
                "d n3 n4");
        FlowTermsTest w = new FlowTermsTest();
        due("Throwing: a try does not get it", w.run(w.p(w.y.catches(w.nil(), w.rescue(w.y.throwsTo(w.nil(), w.n(1)), 0, w.p(w.n(9)))))), "d n1");
        FlowTermsTest x = new FlowTermsTest();
        due("Throwing: the tag, then the value", x.run(x.tried(x.y.throwsTo(x.p(x.n(1)), x.p(x.n(2)))), x.y.catches(x.p(x.n(3)), x.p(x.n(4)))), "d n1 n2 o4 n3 n4");
    }
}
