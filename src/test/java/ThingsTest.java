/** Promises 2 to 11, 19 to 21, 36, 39 to 41, 47, 48 and 58: things, names, and what is plainly done with them. */
public final class ThingsTest extends Check {
    public static void main(String[] args) {
        plainThings();
        locals();
        fields();
        constants();
        orSets();
        choices();
        loops();
        frozen();
        asking();
        end();
    }

    private static void plainThings() {
        ThingsTest t = new ThingsTest();
        due("2 3 4 41 47 48: kinds and values", t.run(t.p(t.n(-7)), t.p(t.y.message(19)), t.p(t.nil()), t.p(t.y.plain('T')),
                t.p(t.y.plain('F')), t.p(t.self()), t.p(t.n(Integer.MAX_VALUE))), "d n-7 s19 N T F N n2147483647");
        due("58: messages are no numbers", t.y.sum(), 2147483640L);
        ThingsTest u = new ThingsTest();
        due("47 48: classes and what is made of them", u.run(u.p(u.c(0)), u.p(u.c(5)), u.p(u.fresh(2)), u.p(u.module(7, u.nil())),
                u.p(u.module(7, u.self())), u.p(u.type(6, u.self())), u.p(u.fresh(6)), u.p(u.y.proc(u.block(u.nil()), true))),
                "d c0 c5 o2 N m6 c7 o7 p");
        due("58: none", u.y.sum(), 0L);
        ThingsTest v = new ThingsTest();
        due("41: it gives the thing", v.run(v.p(v.p(v.n(3)))), "d n3 n3");
        due("47: too far", of(() -> v.y.kindAt(2)), "IndexOutOfBoundsException");
        due("47: below", of(() -> v.y.kindAt(-1)), "IndexOutOfBoundsException");
        due("48: too far", of(() -> v.y.valueAt(2)), "IndexOutOfBoundsException");
        due("48: below", of(() -> v.y.valueAt(-1)), "IndexOutOfBoundsException");
        due("58: sum", v.y.sum(), 6L);
        ThingsTest w = new ThingsTest();
        int big = w.seq(w.p(w.n(Integer.MAX_VALUE)), w.p(w.n(Integer.MAX_VALUE)), w.p(w.n(Integer.MAX_VALUE)));
        due("58: ends", w.y.run(big, 100), 'd');
        due("58: a long", w.y.sum(), 6442450941L);
        ThingsTest x = new ThingsTest();
        int count = x.seq(x.set(0, x.n(0)), x.y.loop(x.call(x.l(0), 12, x.n(70)), x.p(x.set(0, x.call(x.l(0), 10, x.n(1))))));
        due("41 46: at most 60", x.y.run(count, 5000), 'd');
        due("46: at most 60", x.y.printed(), 60);
        due("58: of those that were printed", x.y.sum(), 1830L);
        due("47: the last", x.y.valueAt(59), 60);
        due("47: none behind", of(() -> x.y.kindAt(60)), "IndexOutOfBoundsException");
    }

    private static void locals() {
        ThingsTest t = new ThingsTest();
        due("5 6: nil, set, and set again", t.run(t.p(t.l(5)), t.p(t.set(5, t.n(4))), t.p(t.l(5)), t.set(5, t.y.plain('T')),
                t.p(t.l(5)), t.p(t.l(4))), "d N n4 n4 T N");
        ThingsTest u = new ThingsTest();
        due("5: of a method alone", u.run(u.set(0, u.n(1)), u.define(7, u.seq(u.p(u.l(0)), u.set(0, u.n(2)))), u.send(7), u.p(u.l(0))), "d N n1");
        ThingsTest v = new ThingsTest();
        due("5: of a body alone", v.run(v.set(0, v.n(1)), v.type(6, v.p(v.l(0))), v.module(7, v.seq(v.p(v.l(0)), v.set(0, v.n(5)))), v.p(v.l(0))), "d N N n1");
    }

    private static void fields() {
        ThingsTest t = new ThingsTest();
        due("7: nil has none", t.run(t.p(t.y.field(0)), t.p(t.n(1)), t.y.setField(0, t.p(t.n(2)))), "e5 N n1 n2");
        ThingsTest u = new ThingsTest();
        due("7 8: of an object", u.run(u.type(6, u.seq(u.define(7, 1, u.p(u.y.setField(5, u.l(0)))), u.define(8, u.y.field(5)))),
                u.set(0, u.fresh(6)), u.set(1, u.fresh(6)), u.p(u.call(u.l(0), 8)), u.call(u.l(0), 7, u.n(3)), u.p(u.call(u.l(0), 8)),
                u.p(u.call(u.l(1), 8))), "d N n3 n3 N");
        ThingsTest v = new ThingsTest();
        due("8: of a class and a module", v.run(v.type(6, v.y.setField(1, v.n(2))), v.module(7, v.y.setField(1, v.n(3))),
                v.type(6, v.p(v.y.field(1))), v.module(7, v.p(v.y.field(1))), v.type(6, v.p(v.y.field(0)))), "d n2 n3 N");
        ThingsTest w = new ThingsTest();
        due("7 8: of a number", w.run(w.type(1, w.seq(w.define(7, w.y.field(0)), w.define(8, w.y.setField(0, w.n(1))))),
                w.p(w.call(w.n(1), 7)), w.call(w.n(1), 8)), "e5 N");
    }

    private static void constants() {
        ThingsTest t = new ThingsTest();
        due("9: at the beginning", t.run(t.p(t.c(0)), t.p(t.c(1)), t.p(t.c(2)), t.p(t.c(3)), t.p(t.c(4)), t.p(t.c(5)), t.p(t.c(6))), "e2 c0 c1 c2 c3 c4 c5");
        due("9: lineage", t.lineage(1) + "|" + t.lineage(2) + "|" + t.lineage(4), "1 0|2 0|4 2 0");
        ThingsTest u = new ThingsTest();
        due("10: set, and set again", u.run(u.p(u.y.setConstant(11, u.n(3))), u.p(u.c(11)), u.y.setConstant(11, u.n(4)), u.p(u.c(11)),
                u.y.setConstant(0, u.n(5)), u.p(u.c(0))), "d n3 n3 n4 n5");
        due("10 57: warnings", u.y.warnings(), 2);
        ThingsTest v = new ThingsTest();
        due("9: from the inside out", v.run(v.y.setConstant(6, v.n(1)), v.type(7, v.seq(v.p(v.c(6)), v.y.setConstant(6, v.n(2)),
                v.module(8, v.seq(v.p(v.c(6)), v.y.setConstant(9, v.n(3)), v.define(7, v.c(6)))), v.p(v.c(6)))), v.p(v.c(6)), v.tried(v.c(9))),
                "d n1 n2 n2 n1 o2");
        due("57: none", v.y.warnings(), 0);
        ThingsTest w = new ThingsTest();
        due("9: around before the lineage, and the lineage before Object", w.run(w.y.setConstant(9, w.n(1)), w.y.setConstant(10, w.n(1)),
                w.module(8, w.seq(w.y.setConstant(9, w.n(2)), w.y.setConstant(10, w.n(2)), w.y.setConstant(11, w.n(2)))),
                w.module(7, w.seq(w.y.setConstant(9, w.n(3)), w.type(6, w.seq(w.include(8), w.p(w.c(9)), w.p(w.c(10)), w.p(w.c(11))))))),
                "d n3 n2 n2");
        ThingsTest x = new ThingsTest();
        due("9: in a method, around its definition", x.run(x.type(6, x.seq(x.y.setConstant(9, x.n(1)), x.define(7, x.c(9)),
                x.y.setConstant(9, x.n(2)))), x.type(7, 6, x.seq(x.y.setConstant(9, x.n(3)), x.p(x.c(9)))), x.p(x.call(x.fresh(7), 7))), "d n3 n2");
        ThingsTest z = new ThingsTest();
        due("9: of a class above", z.run(z.type(6, z.y.setConstant(9, z.n(1))), z.type(7, 6, z.p(z.c(9))), z.module(8, z.tried(z.c(9)))), "d n1 o2");
    }

    private static void orSets() {
        ThingsTest t = new ThingsTest();
        due("11: a local", t.run(t.p(t.y.orSet('l', 0, t.n(1))), t.p(t.y.orSet('l', 0, t.p(t.n(2)))), t.set(0, t.y.plain('F')),
                t.p(t.y.orSet('l', 0, t.n(3))), t.p(t.l(0))), "d n1 n1 n3 n3");
        ThingsTest u = new ThingsTest();
        due("11: a field", u.run(u.type(6, u.seq(u.p(u.y.orSet('f', 2, u.n(1))), u.p(u.y.orSet('f', 2, u.p(u.n(2)))), u.p(u.y.field(2)))),
                u.y.orSet('f', 2, u.p(u.n(3)))), "e5 n1 n1 n1 n3");
        ThingsTest v = new ThingsTest();
        due("11: a constant", v.run(v.p(v.y.orSet('c', 9, v.n(1))), v.p(v.y.orSet('c', 9, v.p(v.n(2)))), v.type(6, v.seq(
                v.p(v.y.orSet('c', 9, v.n(3))), v.y.setConstant(9, v.nil()), v.p(v.y.orSet('c', 9, v.n(4))))), v.p(v.c(9))), "d n1 n1 n1 n4 n1");
        due("11 57: the nil was there", v.y.warnings(), 1);
    }

    private static void choices() {
        ThingsTest t = new ThingsTest();
        due("20: what is true", t.run(t.p(t.y.choice(t.n(0), t.n(1), t.n(2))), t.p(t.y.choice(t.nil(), t.n(1), t.n(2))),
                t.p(t.y.choice(t.y.plain('F'), t.n(1), t.n(2))), t.p(t.y.choice(t.y.message(0), t.n(1), t.p(t.n(2)))),
                t.p(t.y.choice(t.y.plain('F'), t.n(1), -1))), "d n1 n2 n2 n1 N");
        ThingsTest u = new ThingsTest();
        due("19: the second one", u.run(u.p(u.y.both(u.p(u.n(1)), u.n(2)))), "d n1 n2");
        due("45: steps", u.y.steps(), 5);
    }

    private static void loops() {
        ThingsTest t = new ThingsTest();
        due("21: as long as it is true", t.run(t.set(0, t.n(0)), t.p(t.y.loop(t.call(t.l(0), 12, t.n(3)),
                t.set(0, t.p(t.call(t.l(0), 10, t.n(1)))))), t.p(t.l(0))), "d n1 n2 n3 N n3");
        ThingsTest u = new ThingsTest();
        due("21: not at all", u.run(u.p(u.y.loop(u.y.plain('F'), u.p(u.n(1))))), "d N");
        due("45: steps", u.y.steps(), 3);
        ThingsTest v = new ThingsTest();
        due("21 44: without an end", v.runLimited(v.y.loop(v.n(1), v.n(2)), 5000), "l");
        due("45: the limit", v.y.steps(), 5000);
    }

    private static void frozen() {
        ThingsTest t = new ThingsTest();
        due("36: it gives the thing; fields cannot be set", t.run(t.type(6, t.seq(t.define(7, t.y.setField(0, t.n(1))), t.define(8, t.y.field(0)))),
                t.set(0, t.fresh(6)), t.call(t.l(0), 7), t.p(t.y.freeze(t.l(0))), t.tried(t.call(t.l(0), 7)), t.p(t.call(t.l(0), 8)),
                t.p(t.call(t.fresh(6), 7))), "d o6 o5 n1 n1");
        ThingsTest u = new ThingsTest();
        due("36: a class that is frozen can be opened, but not changed", u.run(u.type(6, u.define(7, u.n(1))), u.module(8, u.nil()), u.y.freeze(u.c(6)),
                u.type(6, u.seq(u.p(u.n(1)), u.tried(u.define(8, u.n(1))), u.tried(u.y.setField(0, u.n(1))), u.tried(u.y.setConstant(9, u.n(1))),
                        u.tried(u.include(8)), u.tried(u.ahead(8)), u.tried(u.y.alias(9, 7)), u.tried(u.y.undefine(7)), u.tried(u.y.hide(7, 'r')),
                        u.tried(u.type(9, u.p(u.n(2)))), u.tried(u.module(9, u.p(u.n(2)))), u.tried(u.y.defineOn(u.self(), 8, 0, -1, u.nil())),
                        u.tried(u.y.mix('e', -1, u.c(8))))), u.p(u.call(u.fresh(6), 7))),
                "d n1 o5 o5 o5 o5 o5 o5 o5 o5 o5 o5 o5 o5 n1");
        due("50: nothing more was made", u.y.classes(), 8);
        due("56: nothing more was defined", u.y.definitions(), 1);
        ThingsTest v = new ThingsTest();
        due("36: things that are frozen", v.run(v.module(8, v.nil()), v.p(v.y.freeze(v.n(1))), v.p(v.y.freeze(v.nil())),
                v.tried(v.y.defineOn(v.n(1), 7, 0, -1, v.nil())), v.tried(v.y.mix('e', v.nil(), v.c(8))), v.tried(v.y.mix('e', v.y.message(1), v.c(8))),
                v.tried(v.y.defineOn(v.y.plain('T'), 7, 0, -1, v.nil())), v.tried(v.y.defineOn(v.y.plain('F'), 7, 0, -1, v.nil())),
                v.tried(v.y.defineOn(v.y.proc(v.block(v.nil()), false), 7, 0, -1, v.nil())), v.tried(v.y.setField(0, v.n(1)))),
                "d n1 N o5 o5 o5 o5 o5 o5 o5");
        ThingsTest w = new ThingsTest();
        due("36: Object", w.run(w.y.freeze(w.c(0)), w.tried(w.define(7, w.n(1))), w.tried(w.type(6, w.n(1))), w.tried(w.y.setConstant(1, w.n(1)))), "d o5 o5 o5");
    }

    private static void asking() {
        ThingsTest t = new ThingsTest();
        due("39: classes and modules", t.run(t.module(8, t.nil()), t.module(9, t.nil()), t.type(6, t.include(8)), t.type(7, 6, t.nil()), t.set(0, t.fresh(7)),
                t.p(t.y.isA(t.l(0), t.c(7))), t.p(t.y.isA(t.l(0), t.c(6))), t.p(t.y.isA(t.l(0), t.c(8))), t.p(t.y.isA(t.l(0), t.c(0))),
                t.p(t.y.isA(t.l(0), t.c(9))), t.y.mix('e', t.l(0), t.c(9)), t.p(t.y.isA(t.l(0), t.c(9))), t.p(t.y.isA(t.fresh(7), t.c(9))),
                t.p(t.y.isA(t.n(1), t.c(1))), t.p(t.y.isA(t.nil(), t.c(1))), t.p(t.y.isA(t.nil(), t.c(0))), t.p(t.y.isA(t.c(6), t.c(6))),
                t.p(t.y.isA(t.c(6), t.c(0))), t.tried(t.y.isA(t.p(t.n(1)), t.p(t.n(2))))), "d T T T T F T F T F T F T n1 n2 o2");
        ThingsTest u = new ThingsTest();
        due("40: public ones that are found", u.run(u.type(6, u.seq(u.define(7, u.nil()), u.y.visibility('r'), u.define(8, u.nil()), u.y.visibility('o'),
                u.define(9, u.nil()))), u.set(0, u.fresh(6)), u.p(u.y.responds(u.l(0), 7)), u.p(u.y.responds(u.l(0), 8)), u.p(u.y.responds(u.l(0), 9)),
                u.p(u.y.responds(u.l(0), 13)), u.p(u.y.responds(u.n(1), 10)), u.type(7, 6, u.y.undefine(7)), u.p(u.y.responds(u.fresh(7), 7)),
                u.y.defineOn(u.l(0), 2, 0, -1, u.nil()), u.p(u.y.responds(u.l(0), 2)), u.p(u.y.responds(u.fresh(6), 2))), "d T F F F F F T F");
        due("40: it does not keep", u.y.hits() + u.y.misses(), 3);
    }
}
