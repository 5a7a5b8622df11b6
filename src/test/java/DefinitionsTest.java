/** Promises 27 to 35: classes, modules, methods, mixing, and what changes them. */
public final class DefinitionsTest extends Check {
    public static void main(String[] args) {
        classes();
        classesAgain();
        objectAgain();
        modules();
        defining();
        definingOn();
        including();
        lineages();
        extending();
        aliases();
        undefining();
        visibilities();
        hiding();
        hooks();
        end();
    }

    private static void classes() {
        DefinitionsTest t = new DefinitionsTest();
        due("27: it gives what its body gives, self is it", t.run(t.p(t.type(6, t.n(4))), t.p(t.type(7, 6, t.self())), t.p(t.y.isA(t.fresh(7), t.c(6))), t.tried(t.y.classNode(8, t.p(t.n(1)), t.p(t.n(2)))),
                t.tried(t.y.classNode(8, t.module(9, t.self()), t.nil())), t.tried(t.c(8))), "d n4 c7 T n1 o2 o2 o2");
        due("50: classes and modules", t.y.classes(), 9);
        due("51 52: lineage", t.lineage(7), "7 6 0");
        DefinitionsTest u = new DefinitionsTest();
        due("27: of the innermost one", u.run(u.type(6, u.seq(u.type(2, u.p(u.self())), u.p(u.c(2)))), u.p(u.c(2)), u.type(6, u.type(2, u.p(u.self()))), u.tried(u.type(7, 2, u.nil())), u.p(u.c(7))), "d c7 c7 c2 c7 c8");
        due("51: above it", u.lineage(7) + "|" + u.lineage(8), "7 0|8 2 0");
    }

    private static void classesAgain() {
        DefinitionsTest t = new DefinitionsTest();
        due("27: opened again, not with another one above", t.run(t.type(6, t.define(7, t.n(1))), t.type(6, t.seq(t.p(t.l(0)), t.define(8, t.n(2)))), t.p(t.call(t.fresh(6), 7)), t.p(t.call(t.fresh(6), 8)),
                t.type(7, 6, t.p(t.n(3))), t.type(7, 6, t.p(t.n(4))), t.tried(t.type(7, 0, t.p(t.n(9)))), t.tried(t.type(6, 7, t.p(t.n(9)))), t.type(6, 0, t.p(t.n(5)))), "d N n1 n2 n3 n4 o2 o2 n5");
        due("57: no warnings", t.y.warnings(), 0);
        DefinitionsTest w = new DefinitionsTest();
        due("27: without one, Object is what is above it", w.run(w.type(6, 2, w.nil()), w.tried(w.type(6, w.p(w.n(9)))), w.type(1, w.p(w.self())), w.type(2, w.p(w.n(3)))), "d o2 c1 n3");
        DefinitionsTest u = new DefinitionsTest();
        due("27: another thing is a warning", u.run(u.y.setConstant(6, u.n(1)), u.p(u.type(6, u.self())), u.module(7, u.nil()), u.p(u.type(7, u.self()))), "d c6 c8");
        due("57: two warnings", u.y.warnings(), 2);
        DefinitionsTest v = new DefinitionsTest();
        due("27: in a method, around its definition", v.run(v.type(6, v.define(7, v.type(9, v.self()))), v.p(v.call(v.fresh(6), 7)), v.p(v.call(v.fresh(6), 7)), v.tried(v.c(9)), v.type(6, v.p(v.c(9)))), "d c7 c7 o2 c7");
    }

    private static void objectAgain() {
        DefinitionsTest t = new DefinitionsTest();
        due("27: Object is opened again, with itself for what is above or with nothing", t.run(t.p(t.type(0, t.seq(t.define(7, t.n(7)), t.self()))), t.p(t.send(7)), t.type(0, 0, t.define(8, t.n(8))), t.p(t.send(8)),
                t.type(6, t.define(9, t.type(0, t.self()))), t.p(t.call(t.fresh(6), 9)), t.y.freeze(t.c(0)), t.type(0, t.p(t.n(1)))), "d c0 n7 n8 c7 n1");
        due("56: definitions", t.y.definitions(), 3);
        due("57: no warnings", t.y.warnings(), 0);
        due("51 52: lineages", t.lineage(0) + "|" + t.lineage(6) + "|" + t.lineage(7), "0|6 0|7 0");
        DefinitionsTest u = new DefinitionsTest();
        due("27: not with another class above it, or what is none, or as a module", u.run(u.tried(u.type(0, 1, u.p(u.n(9)))), u.tried(u.y.classNode(0, u.n(1), u.p(u.n(9)))), u.tried(u.module(0, u.p(u.n(9))))), "d o2 o2 o2");
        DefinitionsTest v = new DefinitionsTest();
        due("27: as another constant, of another class", v.run(v.type(6, v.seq(v.y.setConstant(7, v.c(0)), v.p(v.type(7, v.self())), v.type(7, v.define(8, v.n(8))))), v.p(v.send(8)), v.tried(v.type(3, v.p(v.n(9))))), "d c0 n8 o2");
    }

    private static void modules() {
        DefinitionsTest t = new DefinitionsTest();
        due("28: new, and opened again", t.run(t.p(t.module(6, t.n(1))), t.p(t.module(6, t.self())), t.tried(t.module(2, t.p(t.n(9)))), t.y.setConstant(7, t.n(1)), t.p(t.module(7, t.self())),
                t.module(6, t.seq(t.define(7, t.n(3)), t.p(t.module(6, t.self()))))), "d n1 m6 o2 m7 m8");
        due("57: a warning", t.y.warnings(), 1);
        due("51: alone", t.lineage(6), "6");
        due("53: owner", t.y.ownerOf(6, 7), 6);
        due("53: not of another one", of(() -> t.y.ownerOf(7, 7)), "NoSuchElementException");
    }

    private static void defining() {
        DefinitionsTest t = new DefinitionsTest();
        due("29: it gives the message", t.run(t.p(t.define(7, t.n(1))), t.p(t.call(t.n(3), 7)), t.type(6, t.define(8, t.define(9, t.n(4)))), t.tried(t.send(9)), t.call(t.fresh(6), 8), t.tried(t.send(9)),
                t.p(t.call(t.fresh(6), 9)), t.define(7, t.n(2)), t.p(t.send(7))), "d s7 n1 o3 o3 n4 n2");
        due("56: definitions", t.y.definitions(), 4);
        due("53: owners", t.y.ownerOf(6, 9) + " " + t.y.ownerOf(6, 7) + " " + t.y.ownerOf(3, 7), "6 0 0");
        DefinitionsTest u = new DefinitionsTest();
        due("29: in a block, as where it was made", u.run(u.define(7, u.y.yields(-1, -1)), u.type(6, u.y.call(-1, 7, -1, -1, u.block(u.define(8, u.n(5))))), u.p(u.call(u.fresh(6), 8)), u.send(8)), "e3 n5");
    }

    private static void definingOn() {
        DefinitionsTest t = new DefinitionsTest();
        due("30: at the own place", t.run(t.type(6, t.define(7, t.n(1))), t.set(0, t.fresh(6)), t.p(t.y.defineOn(t.l(0), 7, 0, -1, t.call(t.y.superCall(true, -1, -1), 10, t.n(10)))), t.p(t.call(t.l(0), 7)),
                t.p(t.call(t.fresh(6), 7))), "d s7 n11 n1");
        due("53: the own place is none", t.y.ownerOf(6, 7), 6);
        DefinitionsTest u = new DefinitionsTest();
        due("30: of a class, for those below, too", u.run(u.type(6, u.y.defineOn(u.self(), 7, 1, -1, u.self())), u.type(7, 6, u.nil()), u.p(u.call(u.c(6), 7, u.nil())), u.p(u.call(u.c(7), 7, u.nil())),
                u.tried(u.call(u.fresh(6), 7, u.nil())), u.y.defineOn(u.c(7), 7, 1, u.n(3), u.seq(u.p(u.l(1)), u.y.superCall(false, u.l(0), -1))), u.p(u.call(u.c(7), 7, u.nil())),
                u.y.defineOn(u.c(0), 8, 0, -1, u.n(8)), u.p(u.call(u.c(7), 8)), u.tried(u.call(u.nil(), 8)), u.module(9, u.y.defineOn(u.self(), 8, 0, -1, u.n(9))), u.p(u.call(u.c(9), 8))),
                "d c6 c7 o3 n3 c7 n8 o3 n9");
        DefinitionsTest v = new DefinitionsTest();
        due("30: public; constants as around its definition", v.run(v.set(0, v.fresh(0)), v.type(6, v.seq(v.y.setConstant(9, v.n(4)), v.y.visibility('r'), v.y.defineOn(v.self(), 7, 0, -1, v.c(9)))),
                v.p(v.call(v.c(6), 7))), "d n4");
        due("56: definitions", v.y.definitions(), 1);
    }

    private static void including() {
        DefinitionsTest t = new DefinitionsTest();
        due("31: behind, ahead, each with super", t.run(t.module(8, t.define(7, t.seq(t.p(t.n(8)), t.y.superCall(true, -1, -1)))), t.module(9, t.define(7, t.seq(t.p(t.n(9)), t.y.superCall(true, -1, -1)))),
                t.define(7, t.p(t.n(0))), t.type(6, t.seq(t.p(t.include(8)), t.p(t.ahead(9)), t.define(7, t.seq(t.p(t.n(6)), t.y.superCall(true, -1, -1))))), t.call(t.fresh(6), 7)), "d m6 m7 n9 n6 n8 n0");
        due("51 52: lineage", t.lineage(8), "7 8 6 0");
        DefinitionsTest u = new DefinitionsTest();
        due("31: what is no module, or has the one that includes it", u.run(u.module(8, u.tried(u.include(8))), u.module(9, u.include(8)), u.module(8, u.seq(u.tried(u.include(9)), u.tried(u.ahead(9)))), u.tried(u.include(6)),
                u.type(6, u.seq(u.tried(u.include(0)), u.tried(u.y.mix('i', -1, u.n(1))), u.tried(u.ahead(2)), u.tried(u.y.mix('e', -1, u.c(0)))))), "d o2 o2 o2 o2 o2 o2 o2 o2");
        due("56: just one", u.y.definitions(), 1);
    }

    private static void lineages() {
        DefinitionsTest t = new DefinitionsTest();
        t.run(t.module(7, t.nil()), t.module(8, t.include(7)), t.module(9, t.include(7)), t.type(6, t.seq(t.include(8), t.include(9))), t.type(10, 6, t.seq(t.include(7), t.ahead(8))));
        due("51: the last one first, each once where it stands first", t.lineage(9), "9 8 6 7 0");
        due("51: of the class below", t.lineage(10), "7 6 10 9 8 0");
        DefinitionsTest u = new DefinitionsTest();
        u.run(u.module(7, u.nil()), u.module(8, u.nil()), u.type(6, u.seq(u.ahead(7), u.ahead(8), u.ahead(7), u.include(7))), u.module(8, u.include(7)));
        due("52: modules that change later", u.lineage(8), "7 6 8 0");
        due("56: not there already, in this way", u.y.definitions(), 4);
        due("52: without asking for another lineage before", u.y.lineageAt(4, 1) + " " + u.y.lineageAt(8, 1) + " " + u.y.lineage(4) + " " + u.y.lineage(8), "2 6 3 4");
        due("52: no place", of(() -> u.y.lineageAt(8, 4)), "IndexOutOfBoundsException");
        due("52: below", of(() -> u.y.lineageAt(8, -1)), "IndexOutOfBoundsException");
        due("51: no class", of(() -> u.y.lineage(9)), "IndexOutOfBoundsException");
        due("51: below", of(() -> u.y.lineage(-1)), "IndexOutOfBoundsException");
        DefinitionsTest v = new DefinitionsTest();
        v.run(v.module(6, v.nil()), v.module(7, v.nil()), v.include(6), v.ahead(7));
        due("31: at the top, Object", v.lineage(0) + "|" + v.lineage(3), "7 0 6|3 2 7 0 6");
    }

    private static void extending() {
        DefinitionsTest t = new DefinitionsTest();
        due("31: a thing, or self", t.run(t.module(8, t.define(7, t.n(8))), t.module(9, t.define(7, t.call(t.y.superCall(true, -1, -1), 10, t.n(1)))), t.set(0, t.fresh(0)), t.p(t.y.mix('e', t.l(0), t.c(8))),
                t.y.mix('e', t.l(0), t.c(9)), t.p(t.call(t.l(0), 7)), t.tried(t.call(t.fresh(0), 7)), t.type(6, t.y.mix('e', -1, t.c(8))), t.p(t.call(t.c(6), 7)), t.tried(t.call(t.fresh(6), 7)), t.type(7, 6, t.nil()),
                t.p(t.call(t.c(7), 7)), t.module(8, t.y.mix('e', -1, t.self())), t.p(t.call(t.c(8), 7))), "d m6 n9 o3 n8 o3 n8 n8");
        due("51: no change of its lineage", t.lineage(8), "8 0");
        DefinitionsTest u = new DefinitionsTest();
        due("31: again changes nothing", u.run(u.module(8, u.nil()), u.set(0, u.fresh(0)), u.y.mix('e', u.l(0), u.c(8)), u.y.mix('e', u.l(0), u.c(8)), u.tried(u.y.mix('e', u.p(u.n(1)), u.p(u.n(2))))), "d n1 n2 o2");
        due("56: one", u.y.definitions(), 1);
    }

    private static void aliases() {
        DefinitionsTest t = new DefinitionsTest();
        due("32: what is found, with its visibility", t.run(t.type(6, t.seq(t.y.visibility('r'), t.define(7, t.n(7)))), t.type(7, 6, t.seq(t.p(t.y.alias(8, 7)), t.define(9, t.send(8)), t.tried(t.y.alias(9, 2)))),
                t.p(t.call(t.fresh(7), 9)), t.tried(t.call(t.fresh(7), 8)), t.type(6, t.define(7, t.n(70))), t.p(t.call(t.fresh(7), 9))), "d N o3 n7 o3 n7");
        due("53: its owner", t.y.ownerOf(7, 8), 7);
        due("53: the owner of the other", t.y.ownerOf(7, 7), 6);
        due("56: definitions", t.y.definitions(), 4);
        DefinitionsTest u = new DefinitionsTest();
        due("32: what is told of 10 to 16 is no method", u.run(u.type(1, u.tried(u.y.alias(7, 10))), u.tried(u.y.alias(7, 13))), "d o3 o3");
    }

    private static void undefining() {
        DefinitionsTest t = new DefinitionsTest();
        due("33: hides all behind it", t.run(t.define(7, t.n(1)), t.type(6, t.seq(t.define(7, t.n(2)), t.p(t.y.undefine(7)), t.tried(t.y.undefine(7)), t.tried(t.y.undefine(8)))), t.tried(t.call(t.fresh(6), 7)),
                t.type(7, 6, t.tried(t.y.undefine(7))), t.tried(t.call(t.fresh(7), 7)), t.p(t.send(7)), t.type(6, t.define(7, t.n(3))), t.p(t.call(t.fresh(7), 7))), "d N o3 o3 o3 o3 o3 n1 n3");
        due("56: definitions", t.y.definitions(), 4);
        DefinitionsTest u = new DefinitionsTest();
        u.run(u.define(7, u.n(1)), u.type(6, u.y.undefine(7)));
        due("53: hidden", of(() -> u.y.ownerOf(6, 7)), "NoSuchElementException");
        due("53: there", u.y.ownerOf(0, 7), 0);
        due("53: no class", of(() -> u.y.ownerOf(7, 20)), "IndexOutOfBoundsException");
        due("53: no message", of(() -> u.y.ownerOf(6, 20)), "IllegalArgumentException");
        due("53: no message", of(() -> u.y.ownerOf(6, -1)), "IllegalArgumentException");
    }

    private static void visibilities() {
        DefinitionsTest t = new DefinitionsTest();
        due("34: for what is defined next in this body", t.run(t.type(6, t.seq(t.define(7, t.nil()), t.p(t.y.visibility('r')), t.define(8, t.nil()), t.type(7, t.define(8, t.nil())), t.y.visibility('u'), t.define(9, t.nil()))),
                t.type(6, t.define(2, t.nil())), t.p(t.y.responds(t.fresh(6), 7)), t.p(t.y.responds(t.fresh(6), 8)), t.p(t.y.responds(t.fresh(6), 9)), t.p(t.y.responds(t.fresh(6), 2)), t.type(6, t.p(t.y.responds(t.fresh(7), 8)))),
                "d N T F T T T");
        DefinitionsTest u = new DefinitionsTest();
        due("34: elsewhere it changes nothing", u.run(u.y.visibility('r'), u.define(7, u.seq(u.y.visibility('r'), u.define(8, u.nil()))), u.p(u.y.responds(u.nil(), 7)), u.send(7), u.p(u.y.responds(u.nil(), 8)),
                u.type(6, u.seq(u.send(7), u.define(9, u.nil()))), u.p(u.y.responds(u.fresh(6), 9)), u.type(6, u.seq(u.y.visibility('r'), u.define(2, u.define(3, u.nil())))), u.set(0, u.fresh(6)),
                u.y.attempt(u.call(u.l(0), 2), 3, 1, u.p(u.n(1)), -1, -1), u.define(2, u.nil())), "d T T T n1");
    }

    private static void hiding() {
        DefinitionsTest t = new DefinitionsTest();
        due("35: just what it has itself", t.run(t.type(6, t.seq(t.define(7, t.n(7)), t.p(t.y.hide(7, 'r')), t.define(8, t.send(7)))), t.tried(t.call(t.fresh(6), 7)), t.p(t.call(t.fresh(6), 8)), t.type(7, 6, t.tried(t.y.hide(7, 'u'))),
                t.type(6, t.y.hide(7, 'u')), t.p(t.call(t.fresh(7), 7)), t.type(6, t.seq(t.y.hide(7, 'o'), t.y.alias(9, 7))), t.tried(t.call(t.fresh(6), 9)), t.type(6, t.seq(t.y.undefine(7), t.tried(t.y.hide(7, 'u'))))),
                "d N o3 n7 o3 n7 o3 o3");
        due("56: definitions", t.y.definitions(), 7);
        DefinitionsTest u = new DefinitionsTest();
        due("35: protected", u.run(u.type(6, u.seq(u.define(7, u.n(7)), u.y.hide(7, 'o'), u.define(8, 1, u.call(u.l(0), 7)))), u.p(u.call(u.fresh(6), 8, u.fresh(6))), u.call(u.fresh(6), 7)), "e3 n7");
    }

    private static void hooks() {
        DefinitionsTest t = new DefinitionsTest();
        due("27: 3 is called on the class above, with the new one, before the body", t.run(t.type(6, t.y.defineOn(t.self(), 3, 1, -1, t.seq(t.p(t.self()), t.p(t.l(0)), t.p(t.c(6))))), t.type(7, 6, t.p(t.n(1))), t.type(7, 6, t.p(t.n(2))),
                t.type(8, 7, t.nil()), t.type(9, t.nil())), "d c6 c7 c6 n1 n2 c7 c8 c6");
        DefinitionsTest u = new DefinitionsTest();
        due("31: 4 is called on the module with the thing, each time", u.run(u.module(8, u.y.defineOn(u.self(), 4, 1, -1, u.p(u.l(0)))), u.type(6, u.seq(u.include(8), u.include(8), u.ahead(8))), u.set(0, u.fresh(6)),
                u.y.mix('e', u.l(0), u.c(8)), u.p(u.y.mix('e', u.c(6), u.c(8)))), "d c7 c7 c7 o7 c7 m6");
        due("56: definitions", u.y.definitions(), 5);
        DefinitionsTest v = new DefinitionsTest();
        due("29: 5 is called on the class with the message, private or not", v.run(v.type(6, v.seq(v.y.defineOn(v.self(), 5, 1, -1, v.seq(v.p(v.l(0)), v.n(4))), v.p(v.define(7, v.nil())), v.y.alias(8, 7), v.y.undefine(7),
                v.y.defineOn(v.self(), 9, 0, -1, v.nil()))), v.type(7, 6, v.define(9, v.nil())), v.define(2, v.nil())), "d s7 s7 s9");
        DefinitionsTest w = new DefinitionsTest();
        due("27 29: hooks of Object are found for all, whoever may call them", w.run(w.type(6, w.nil()), w.define(5, 1, w.p(w.l(0))), w.y.hide(5, 'r'), w.type(6, w.define(7, w.nil())), w.define(3, 1, w.p(w.l(0))), w.type(8, w.nil())),
                "d s5 s7 s3 c7");
        DefinitionsTest x = new DefinitionsTest();
        due("27: a hook that raises: the class is there", x.run(x.y.defineOn(x.c(0), 3, 0, -1, x.nil()), x.tried(x.type(6, x.p(x.n(9)))), x.p(x.c(6))), "d o2 c6");
    }
}
