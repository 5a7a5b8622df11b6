/** Promises 12 to 17: calls, what answers them, super, blocks and procs. */
public final class CallsTest extends Check {
    public static void main(String[] args) {
        order();
        methods();
        visible();
        builtIn();
        making();
        missing();
        safe();
        supers();
        supersOutside();
        supersOwn();
        supersBehind();
        yielding();
        blocks();
        procs();
        tooDeep();
        end();
    }

    private static void order() {
        CallsTest t = new CallsTest();
        due("12: receiver, then arguments", t.run(t.type(6, t.define(7, 2, t.p(t.call(t.l(0), 11, t.l(1))))),
                t.p(t.y.call(t.seq(t.p(t.n(1)), t.fresh(6)), 7, t.p(t.n(2)), t.p(t.n(9)), -1))), "d n1 n2 n9 n-7 n-7");
        due("45: steps", t.y.steps(), 18);
        CallsTest u = new CallsTest();
        due("12: found behind the arguments", u.run(u.define(7, 1, u.n(1)), u.p(u.send(7, u.define(7, 1, u.n(2)))), u.p(u.call(u.n(5), 7, u.nil()))), "d n2 n2");
    }

    private static void methods() {
        CallsTest t = new CallsTest();
        due("12 29: needed parameters", t.run(t.define(7, 2, t.p(t.l(1))), t.p(t.send(7, t.n(1), t.n(2))), t.tried(t.send(7, t.n(1))), t.tried(t.send(7)),
                t.define(8, t.n(3)), t.p(t.send(8)), t.tried(t.send(8, t.n(1)))), "d n2 n2 o2 o2 n3 o2");
        CallsTest u = new CallsTest();
        due("12 29: a default, worked out in it", u.run(u.y.define(7, 1, u.seq(u.p(u.l(0)), u.p(u.l(1)), u.call(u.l(0), 10, u.n(1))), u.p(u.l(1))),
                u.send(7, u.n(5)), u.send(7, u.n(5), u.n(8)), u.tried(u.send(7))), "d n5 N n6 n8 o2");
        CallsTest v = new CallsTest();
        due("29: two needed ones and a default", v.run(v.y.define(7, 2, v.y.field(0), v.seq(v.p(v.l(2)), v.l(3))), v.p(v.send(7, v.n(1), v.n(2)))), "d N N");
        CallsTest w = new CallsTest();
        due("29: left in the default", w.run(w.y.define(7, 0, w.y.leave('r', w.n(4)), w.p(w.n(1))), w.p(w.send(7)), w.p(w.send(7, w.n(0)))), "d n4 n1 n1");
        CallsTest x = new CallsTest();
        due("12: it gives what its body gives, self is the receiver", x.run(x.define(7, x.self()), x.p(x.call(x.n(4), 7)), x.p(x.send(7)),
                x.type(6, x.define(8, x.send(7))), x.p(x.call(x.fresh(6), 8))), "d n4 N o6");
    }

    private static void visible() {
        CallsTest t = new CallsTest();
        due("12: private ones just without a receiver", t.run(t.type(6, t.seq(t.y.visibility('r'), t.define(7, t.n(7)), t.y.visibility('u'),
                t.define(8, t.send(7)), t.define(9, t.call(t.self(), 7)))), t.p(t.call(t.fresh(6), 8)), t.tried(t.call(t.fresh(6), 9)),
                t.tried(t.call(t.fresh(6), 7))), "d n7 o3 o3");
        CallsTest u = new CallsTest();
        due("12: protected ones", u.run(u.type(6, u.seq(u.y.visibility('o'), u.define(7, u.n(7)), u.y.visibility('u'), u.define(8, 1, u.call(u.l(0), 7)),
                u.define(9, u.send(7)))), u.type(7, 6, u.nil()), u.type(8, u.define(8, 1, u.call(u.l(0), 7))), u.p(u.call(u.fresh(6), 8, u.fresh(7))),
                u.p(u.call(u.fresh(7), 8, u.fresh(6))), u.p(u.call(u.fresh(6), 9)), u.tried(u.call(u.fresh(8), 8, u.fresh(6))), u.tried(u.call(u.fresh(6), 7))),
                "d n7 n7 n7 o3 o3");
        CallsTest v = new CallsTest();
        due("12: private is found, so that nothing else answers but 1", v.run(v.type(1, v.seq(v.y.visibility('r'), v.define(10, 1, v.n(7)))),
                v.tried(v.call(v.n(1), 10, v.n(2))), v.define(1, 2, v.l(0)), v.p(v.call(v.n(1), 10, v.n(2))), v.p(v.call(v.n(1), 11, v.n(2)))),
                "d o3 s10 n-1");
    }

    private static void builtIn() {
        CallsTest t = new CallsTest();
        due("12: numbers", t.run(t.p(t.call(t.n(2), 10, t.n(3))), t.p(t.call(t.n(2), 11, t.n(3), t.n(9))), t.p(t.call(t.n(2), 12, t.n(3))), t.p(t.call(t.n(3), 12, t.n(3))),
                t.p(t.call(t.n(Integer.MAX_VALUE), 10, t.n(1))), t.p(t.call(t.n(Integer.MIN_VALUE), 11, t.n(1)))), "d n5 n-1 T F n-2147483648 n2147483647");
        CallsTest u = new CallsTest();
        due("12: with another argument, or none", u.run(u.tried(u.call(u.n(1), 10)), u.tried(u.call(u.n(1), 11, u.nil())), u.tried(u.call(u.n(1), 12, u.y.message(1))),
                u.tried(u.call(u.nil(), 10, u.n(1))), u.tried(u.call(u.y.message(1), 12, u.n(1)))), "d o2 o2 o2 o3 o3");
        CallsTest v = new CallsTest();
        due("12: the same", v.run(v.p(v.call(v.n(1), 13, v.n(1))), v.p(v.call(v.n(1), 13, v.y.message(1))), v.p(v.call(v.y.message(1), 13, v.y.message(1))),
                v.p(v.call(v.nil(), 13)), v.p(v.call(v.y.plain('F'), 13)), v.p(v.call(v.nil(), 13, v.y.plain('F'))), v.p(v.call(v.c(0), 13, v.c(0), v.c(1))),
                v.p(v.call(v.fresh(0), 13, v.fresh(0))), v.set(0, v.fresh(0)), v.p(v.call(v.l(0), 13, v.l(0))), v.p(v.call(v.c(0), 13, v.c(1)))), "d T F T T F F T F T F");
        CallsTest w = new CallsTest();
        due("12: a method comes first", w.run(w.type(1, w.define(10, 1, w.n(50))), w.p(w.call(w.n(1), 10, w.n(1))), w.define(13, w.n(60)), w.p(w.call(w.nil(), 13)),
                w.define(14, w.n(70)), w.p(w.fresh(0)), w.define(15, w.n(80)), w.p(w.call(w.y.proc(w.block(w.n(1)), true), 15)), w.define(16, w.n(90)),
                w.p(w.call(w.nil(), 16))), "d n50 n60 n70 n80 n90");
        CallsTest x = new CallsTest();
        due("12: undefined hides what is told", x.run(x.type(1, x.seq(x.define(10, x.n(1)), x.y.undefine(10))), x.tried(x.call(x.n(1), 10, x.n(2))),
                x.p(x.call(x.n(1), 11, x.n(2)))), "d o3 n-1");
        CallsTest z = new CallsTest();
        due("12: none for others", z.run(z.tried(z.call(z.n(1), 14)), z.tried(z.call(z.n(1), 15)), z.tried(z.call(z.c(0), 16)), z.tried(z.call(z.fresh(0), 15)),
                z.p(z.call(z.fresh(0), 16))), "d o3 o3 o3 o3 N");
    }

    private static void making() {
        CallsTest t = new CallsTest();
        due("12: makes an object, calls 0", t.run(t.type(6, t.seq(t.y.visibility('r'), t.define(0, 1, t.seq(t.p(t.self()), t.y.setField(0, t.l(0)), t.n(9))), t.y.visibility('u'),
                t.define(7, t.y.field(0)))), t.p(t.call(t.p(t.fresh(6, t.n(4))), 7)), t.tried(t.fresh(6))), "d o6 o6 n4 o2");
        CallsTest u = new CallsTest();
        due("12: not of Number itself", u.run(u.tried(u.fresh(1)), u.type(6, 1, u.nil()), u.p(u.fresh(6)), u.tried(u.call(u.fresh(6), 10, u.n(1))),
                u.p(u.fresh(0, u.n(1), u.n(2)))), "d o2 o6 o3 o0");
        CallsTest v = new CallsTest();
        due("12: 0 does not get the block", v.run(v.define(0, v.p(v.y.attempt(v.y.yields(-1, -1), -1, 0, v.n(8), -1, -1))),
                v.p(v.y.call(v.c(0), 14, -1, -1, v.block(v.p(v.n(1)))))), "d n8 o0");
    }

    private static void missing() {
        CallsTest t = new CallsTest();
        due("12: 1 gets the message, the first argument and the block", t.run(t.type(6, t.seq(t.y.visibility('r'), t.define(1, 2, t.seq(t.p(t.l(0)), t.p(t.l(1)),
                t.y.yields(t.n(3), -1))))), t.p(t.y.call(t.fresh(6), 7, t.n(1), t.n(2), t.block(4, t.l(4)))), t.p(t.y.call(t.fresh(6), 9, -1, -1, t.block(t.n(6))))),
                "d s7 n1 n3 s9 N n6");
        CallsTest u = new CallsTest();
        due("12: 1 with other parameters", u.run(u.define(1, 1, u.l(0)), u.tried(u.send(7)), u.y.define(1, 2, u.n(4), u.l(2)), u.p(u.send(7))), "d o2 n4");
        CallsTest v = new CallsTest();
        due("12: a new NoMethod", v.run(v.tried(v.send(7)), v.tried(v.send(1)), v.call(v.n(1), 7)), "e3 o3 o3");
        due("49: its class", v.y.raised(), 3);
        CallsTest w = new CallsTest();
        due("12: undefined, then 1", w.run(w.define(1, 2, w.l(0)), w.type(6, w.define(7, w.n(1))), w.type(7, 6, w.y.undefine(7)), w.p(w.call(w.fresh(7), 7)),
                w.p(w.call(w.fresh(6), 7))), "d s7 n1");
    }

    private static void safe() {
        CallsTest t = new CallsTest();
        due("13: nil alone", t.run(t.define(7, 1, t.l(0)), t.p(t.y.safeCall(t.nil(), 7, t.p(t.n(1)), -1)), t.p(t.y.safeCall(t.y.plain('F'), 7, t.p(t.n(2)), -1)),
                t.p(t.y.safeCall(t.n(1), 10, t.n(2), t.p(t.n(3))))), "d N n2 n2 n3 n3");
        due("54 55: a safe one keeps, too", t.y.hits() + " " + t.y.misses(), "0 2");
        CallsTest u = new CallsTest();
        due("13: a private one", u.run(u.type(6, u.seq(u.y.visibility('r'), u.define(7, u.n(1)))), u.y.safeCall(u.fresh(6), 7, -1, -1)), "e3");
    }

    private static void supers() {
        CallsTest t = new CallsTest();
        due("14: as now", t.run(t.type(6, t.define(7, 2, t.seq(t.p(t.l(0)), t.p(t.l(1)), t.n(3)))), t.type(7, 6, t.y.define(7, 1, t.n(20),
                t.seq(t.set(0, t.n(11)), t.y.superCall(true, -1, -1)))), t.p(t.call(t.fresh(7), 7, t.n(1))), t.p(t.call(t.fresh(7), 7, t.n(1), t.n(2)))),
                "d n11 n20 n3 n11 n2 n3");
        CallsTest u = new CallsTest();
        due("14: with arguments", u.run(u.type(6, u.define(7, 1, u.l(0))), u.type(7, 6, u.define(7, 1, u.y.superCall(false, u.call(u.l(0), 10, u.n(1)), -1))),
                u.type(8, 6, u.define(7, 1, u.y.superCall(false, -1, -1))), u.p(u.call(u.fresh(7), 7, u.n(4))), u.tried(u.call(u.fresh(8), 7, u.n(4)))), "d n5 o2");
        CallsTest v = new CallsTest();
        due("14: with the block, private or not", v.run(v.type(6, v.seq(v.y.visibility('r'), v.define(7, v.y.yields(v.n(2), -1)))), v.type(7, 6, v.define(7,
                v.y.superCall(true, -1, -1))), v.p(v.y.call(v.fresh(7), 7, -1, -1, v.block(0, v.call(v.l(0), 10, v.n(1)))))), "d n3");
        CallsTest w = new CallsTest();
        due("14: in a block, of the method around", w.run(w.type(6, w.define(7, 1, w.p(w.l(0)))), w.type(7, 6, w.define(7, 1, w.send(8, w.nil()))), w.type(7, 6, w.seq(
                w.define(9, w.y.yields(w.n(5), -1)), w.define(7, 1, w.y.call(-1, 9, -1, -1, w.block(0, w.y.superCall(true, -1, -1)))))), w.call(w.fresh(7), 7, w.n(1))), "d n1");
        CallsTest x = new CallsTest();
        due("14: out of a method", x.run(x.tried(x.y.superCall(true, -1, -1)), x.tried(x.y.superCall(false, x.p(x.n(1)), -1)),
                x.define(7, x.type(6, x.y.superCall(true, -1, -1))), x.send(7)), "e4 o4 o4");
        CallsTest z = new CallsTest();
        due("14: three parameters", z.run(z.define(7, z.n(1)), z.type(6, z.y.define(7, 2, z.n(1), z.y.superCall(true, -1, -1))), z.tried(z.call(z.fresh(6), 7, z.n(1), z.n(2))),
                z.define(1, 2, z.l(1)), z.type(6, z.y.define(8, 2, z.n(1), z.y.superCall(true, -1, -1))), z.p(z.call(z.fresh(6), 8, z.n(4), z.n(5)))), "d o2 n4");
    }

    /** Out of a method super raises at once: no argument of it begins. */
    private static void supersOutside() {
        CallsTest t = new CallsTest();
        int alone = t.y.superCall(false, t.p(t.n(1)), t.p(t.n(2)));
        due("14: no argument is worked out", t.runLimited(alone, 1), "e4");
        due("45: one step", t.y.steps(), 1);
        due("14: without a limit", t.run(t.tried(alone)) + " " + t.y.steps(), "d o4 4");
        CallsTest u = new CallsTest();
        due("14: in a block or a body out of a method", u.run(u.tried(u.call(u.y.proc(u.block(u.y.superCall(false, u.p(u.n(1)), -1)), true), 15)), u.tried(u.type(6, u.y.superCall(false, u.p(u.n(2)), -1))),
                u.define(7, u.type(6, u.y.superCall(false, u.p(u.n(3)), u.p(u.n(4))))), u.send(7)), "e4 o4 o4");
        CallsTest v = new CallsTest();
        due("14: in a method they are, also where nothing is behind", v.run(v.define(7, v.y.superCall(false, v.p(v.n(1)), v.p(v.n(2)))), v.send(7)), "e3 n1 n2");
        CallsTest w = new CallsTest();
        due("14: in a block whose method is over", w.run(w.define(8, 1, w.p(w.l(0))), w.type(6, w.define(8, 1, w.y.proc(w.block(w.y.superCall(false, w.p(w.n(2)), -1)), true))),
                w.call(w.call(w.fresh(6), 8, w.n(1)), 15)), "d n2 n2");
    }

    /** What a super gives on is of its own method, not of what was called last. */
    private static void supersOwn() {
        CallsTest t = new CallsTest();
        due("14: three parameters as now", t.run(t.y.define(7, 2, t.n(3), t.seq(t.p(t.l(0)), t.p(t.l(1)), t.p(t.l(2)))), t.type(6, t.y.define(7, 2, t.n(4), t.seq(t.set(2, t.call(t.l(2), 10, t.n(1))),
                t.y.superCall(true, -1, -1)))), t.call(t.fresh(6), 7, t.n(1), t.n(2))), "d n1 n2 n5");
        CallsTest u = new CallsTest();
        due("14: the parameters alone, not other locals", u.run(u.define(13, u.seq(u.set(0, u.self()), u.set(1, u.n(8)), u.y.superCall(true, -1, -1))), u.p(u.call(u.n(1), 13)), u.p(u.call(u.nil(), 13))), "d F T");
        CallsTest v = new CallsTest();
        due("14: its own block, whatever was called before", v.run(v.type(6, v.seq(v.define(7, v.y.yields(-1, -1)), v.define(8, v.y.yields(-1, -1)))), v.type(7, 6, v.define(7, v.seq(v.send(9), v.y.call(-1, 8, -1, -1, v.block(v.p(v.n(1)))),
                v.y.superCall(true, -1, -1)))), v.define(9, v.n(0)), v.y.call(v.fresh(7), 7, -1, -1, v.block(v.p(v.n(2))))), "d n1 n2");
        CallsTest w = new CallsTest();
        due("14: nothing behind, 1 with the block", w.run(w.define(1, 2, w.seq(w.p(w.l(0)), w.p(w.l(1)), w.y.yields(-1, -1))), w.type(6, w.define(7, 2, w.y.superCall(false, w.l(1), w.l(0)))),
                w.p(w.y.call(w.fresh(6), 7, w.n(4), w.n(5), w.block(w.n(6))))), "d s7 n5 n6");
        CallsTest x = new CallsTest();
        due("12: 1 answers what is kept, too", x.run(x.type(6, x.define(1, 2, x.l(1))), x.define(9, 1, x.p(x.call(x.fresh(6), 7, x.l(0)))), x.send(9, x.n(1)), x.send(9, x.n(2)), x.send(9, x.n(3))), "d n1 n2 n3");
        due("54: twice 14 and twice 7 are hits", x.y.hits(), 4);
        CallsTest z = new CallsTest();
        due("17: hooks get no block, whatever was called before", z.run(z.y.defineOn(z.c(0), 5, 1, -1, z.tried(z.y.yields(-1, -1))), z.define(9, z.y.yields(-1, -1)), z.y.call(-1, 9, -1, -1, z.block(z.define(7, z.nil())))), "d o4 o4");
    }

    private static void supersBehind() {
        CallsTest t = new CallsTest();
        due("14: nothing behind", t.run(t.type(1, t.seq(t.define(10, 1, t.call(t.y.superCall(true, -1, -1), 11, t.n(1))), t.define(7, t.y.superCall(true, -1, -1)))),
                t.p(t.call(t.n(5), 10, t.n(5))), t.tried(t.call(t.n(5), 7)), t.define(1, 2, t.l(0)), t.p(t.call(t.n(5), 7))), "d n9 o3 s7");
        CallsTest u = new CallsTest();
        due("14: makes an object", u.run(u.type(6, u.define(0, 1, u.p(u.l(0)))), u.y.defineOn(u.c(6), 14, 0, -1, u.seq(u.p(u.n(1)), u.y.superCall(false, u.n(2), -1))),
                u.p(u.fresh(6))), "d n1 n2 o6");
        CallsTest v = new CallsTest();
        due("14: the message for which it was defined, behind the place where it was found", v.run(v.type(6, v.seq(v.define(7, v.n(1)), v.define(8, v.n(2)))),
                v.type(7, 6, v.seq(v.define(7, v.call(v.y.superCall(true, -1, -1), 10, v.n(10))), v.y.alias(8, 7))), v.p(v.call(v.fresh(7), 8))), "d n11");
        CallsTest w = new CallsTest();
        due("14: the lineage as it is then", w.run(w.module(8, w.define(7, w.n(8))), w.define(7, w.n(1)), w.type(6, w.define(7, w.seq(w.send(9), w.y.superCall(true, -1, -1)))),
                w.define(9, w.type(6, w.include(8))), w.p(w.call(w.fresh(6), 7))), "d n8");
        CallsTest x = new CallsTest();
        due("14: undefined behind", x.run(x.type(6, x.define(13, x.n(1))), x.type(7, 6, x.y.undefine(13)), x.type(8, 7, x.define(13, x.y.superCall(true, -1, -1))),
                x.tried(x.call(x.fresh(8), 13))), "d o3");
        CallsTest z = new CallsTest();
        due("14: own place, modules, class, each once", z.run(z.module(8, z.define(7, z.seq(z.p(z.n(8)), z.y.superCall(true, -1, -1)))), z.type(6, z.seq(z.include(8),
                z.define(7, z.p(z.n(6))))), z.set(0, z.fresh(6)), z.y.mix('e', z.l(0), z.c(8)), z.y.defineOn(z.l(0), 7, 0, -1, z.seq(z.p(z.n(1)), z.y.superCall(true, -1, -1))),
                z.call(z.l(0), 7)), "d n1 n8 n6");
    }

    private static void yielding() {
        CallsTest t = new CallsTest();
        due("17: calls the block; it gives what the block gives", t.run(t.define(7, t.call(t.y.yields(t.n(4), t.n(5)), 10, t.n(1))),
                t.p(t.y.call(-1, 7, -1, -1, t.y.block(2, 3, 1, t.call(t.l(3), 11, t.l(1)))))), "d n0");
        CallsTest u = new CallsTest();
        due("17: without one", u.run(u.define(7, u.y.yields(u.p(u.n(1)), -1)), u.tried(u.send(7)), u.tried(u.y.yields(-1, -1)), u.define(8, u.type(6, u.y.yields(-1, -1))),
                u.y.call(-1, 8, -1, -1, u.block(u.n(2)))), "e4 n1 o4 o4");
        CallsTest v = new CallsTest();
        due("17: in a block, to the block of the method around it", v.run(v.define(7, v.y.yields(-1, -1)), v.define(8, v.y.call(-1, 7, -1, -1, v.block(v.y.yields(v.n(6), -1)))),
                v.p(v.y.call(-1, 8, -1, -1, v.block(0, v.call(v.l(0), 10, v.n(1)))))), "d n7");
        CallsTest w = new CallsTest();
        due("17: missing and further arguments", w.run(w.define(7, w.y.yields(-1, -1)), w.define(8, w.y.yields(w.n(1), w.n(2))),
                w.y.call(-1, 7, -1, -1, w.block(0, w.p(w.l(0)))), w.y.call(-1, 8, -1, -1, w.block(0, w.p(w.l(0)))), w.y.call(-1, 8, -1, -1, w.block(w.p(w.n(3))))), "d N n1 n3");
        CallsTest x = new CallsTest();
        due("17: hooks get no block", x.run(x.define(5, 1, x.tried(x.y.yields(-1, -1))), x.define(7, x.nil())), "d o4 o4");
    }

    private static void blocks() {
        CallsTest t = new CallsTest();
        due("15: parameters are its own, other locals are those around it", t.run(t.set(0, t.n(1)), t.set(1, t.n(2)), t.define(7, t.seq(t.set(1, t.n(50)), t.y.yields(t.n(9), -1))),
                t.y.call(-1, 7, -1, -1, t.block(0, t.seq(t.p(t.l(0)), t.p(t.l(1)), t.set(0, t.n(30)), t.set(1, t.n(40))))), t.p(t.l(0)), t.p(t.l(1))), "d n9 n2 n1 n40");
        CallsTest u = new CallsTest();
        due("15: self, constants and the method around as where it was made", u.run(u.define(7, u.y.yields(-1, -1)), u.type(6, u.seq(u.y.setConstant(9, u.n(3)),
                u.define(8, 1, u.y.call(u.n(4), 7, -1, -1, u.block(u.seq(u.p(u.self()), u.p(u.c(9)), u.p(u.l(0)))))))), u.call(u.fresh(6), 8, u.n(5))), "d o6 n3 n5");
        CallsTest v = new CallsTest();
        due("15: each call has its own parameters", v.run(v.define(7, v.seq(v.y.yields(v.n(1), -1), v.y.yields(v.n(2), -1))), v.y.call(-1, 7, -1, -1, v.block(0,
                v.seq(v.y.call(-1, 8, v.l(0), -1, -1), v.p(v.l(0))))), v.nil()), "e3");
        CallsTest w = new CallsTest();
        due("15 16: what is around lives on", w.run(w.define(7, 1, w.y.proc(w.block(w.set(0, w.call(w.l(0), 10, w.n(1)))), false)), w.set(0, w.send(7, w.n(5))), w.set(1, w.send(7, w.n(8))),
                w.p(w.call(w.l(0), 15)), w.p(w.call(w.l(0), 15)), w.p(w.call(w.l(1), 15)), w.p(w.call(w.l(0), 15))), "d n6 n7 n9 n8");
        CallsTest x = new CallsTest();
        due("15: blocks in blocks", x.run(x.define(7, x.y.yields(x.n(1), x.n(2))), x.y.call(-1, 7, -1, -1, x.y.block(2, 0, 1, x.y.call(-1, 7, -1, -1, x.block(1,
                x.seq(x.p(x.l(0)), x.p(x.l(1)), x.set(0, x.n(7)), x.set(1, x.n(8)), x.set(2, x.n(9))))))), x.p(x.l(0)), x.p(x.l(1)), x.p(x.l(2))), "d n1 n1 N N n9");
        due("45: a block is no step, its body is", stepsOfBlock(), 7);
    }

    private static int stepsOfBlock() {
        CallsTest t = new CallsTest();
        t.run(t.define(7, t.y.yields(-1, -1)), t.y.call(-1, 7, -1, -1, t.block(t.n(1))), t.y.proc(t.block(t.n(2)), true));
        return t.y.steps();
    }

    private static void procs() {
        CallsTest t = new CallsTest();
        due("16: a proc and a lambda", t.run(t.set(0, t.y.proc(t.block(1, t.p(t.l(1))), false)), t.set(1, t.n(7)), t.set(2, t.y.proc(t.y.block(2, 3, 4, t.p(t.l(4))), true)),
                t.call(t.l(0), 15), t.call(t.l(0), 15, t.n(1)), t.call(t.l(0), 15, t.n(1), t.n(2)), t.tried(t.call(t.l(2), 15)), t.tried(t.call(t.l(2), 15, t.n(1))),
                t.call(t.l(2), 15, t.n(1), t.n(2)), t.p(t.l(1)), t.p(t.call(t.l(0), 13, t.l(0))), t.p(t.call(t.l(0), 13, t.l(2)))), "d N n1 n1 o2 o2 n2 n7 T F");
        CallsTest v = new CallsTest();
        due("16: local 0 can be a parameter of a lambda", v.run(v.set(1, v.y.proc(v.block(0, v.l(0)), true)), v.set(2, v.y.proc(v.y.block(2, 5, 0, v.l(0)), true)), v.tried(v.call(v.l(1), 15)),
                v.p(v.call(v.l(1), 15, v.n(1))), v.tried(v.call(v.l(2), 15, v.n(1))), v.p(v.call(v.l(2), 15, v.n(1), v.n(2)))), "d o2 n1 o2 n2");
        CallsTest u = new CallsTest();
        due("16: a new one each time", u.run(u.define(7, u.y.proc(u.block(u.n(1)), false)), u.p(u.call(u.send(7), 13, u.send(7))), u.p(u.y.isA(u.send(7), u.c(0)))), "d F T");
    }

    private static void tooDeep() {
        CallsTest t = new CallsTest();
        due("12: 40 calls within one another", t.run(t.define(7, 1, t.y.choice(t.call(t.l(0), 12, t.n(2)), t.n(5), t.send(7, t.call(t.l(0), 11, t.n(1))))),
                t.p(t.send(7, t.n(40))), t.tried(t.send(7, t.n(41))), t.p(t.send(7, t.n(40)))), "d n5 o4 n5");
        CallsTest u = new CallsTest();
        due("16: blocks count, too", u.run(u.set(0, u.y.proc(u.block(1, u.y.choice(u.call(u.l(1), 12, u.n(2)), u.n(5), u.call(u.l(0), 15, u.call(u.l(1), 11, u.n(1))))), true)),
                u.p(u.call(u.l(0), 15, u.n(40))), u.tried(u.call(u.l(0), 15, u.n(41)))), "d n5 o4");
        CallsTest v = new CallsTest();
        due("12: without an end", v.run(v.define(7, v.send(7)), v.tried(v.send(7)), v.define(1, 2, v.send(8)), v.tried(v.send(9)), v.p(v.n(1))), "d o4 o4 n1");
    }
}
