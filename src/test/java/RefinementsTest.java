/** Promises 37, 38 and 42: refinements, and where they are used. */
public final class RefinementsTest extends Check {
    public static void main(String[] args) {
        using();
        files();
        lastFirst();
        supers();
        bodies();
        wrong();
        others();
        end();
    }

    private int refine(int constant, int body) {
        return y.refine(c(constant), body);
    }

    private static void using() {
        RefinementsTest t = new RefinementsTest();
        int before = t.p(t.call(t.n(1), 7));
        int refined = t.module(8, t.p(t.refine(1, t.define(7, t.n(8)))));
        int first = t.define(7, t.n(0));
        int unused = t.p(t.call(t.n(1), 7));
        int use = t.p(t.y.using(t.c(8)));
        int used = t.p(t.call(t.n(1), 7));
        due("37 38: nodes with greater numbers alone", t.run(refined, first, unused, use, used, before), "d s7 n0 m6 n8 n0");
        due("56: using is a definition", t.y.definitions(), 3);
        due("53: without refinements", t.y.ownerOf(1, 7), 0);
        RefinementsTest u = new RefinementsTest();
        int later = u.y.using(u.c(8));
        due("38: what is refined later by the module counts", u.run(u.module(8, u.nil()), later, u.module(8, u.refine(1, u.define(7, u.n(8)))), u.p(u.call(u.n(1), 7)), u.tried(u.call(u.nil(), 7))), "d n8 o3");
        RefinementsTest v = new RefinementsTest();
        due("38: not used", v.run(v.module(8, v.refine(1, v.define(7, v.n(8)))), v.call(v.n(1), 7)), "e3");
    }

    private static void files() {
        RefinementsTest t = new RefinementsTest();
        int module = t.module(8, t.refine(1, t.define(7, t.n(8))));
        int method = t.define(9, t.call(t.n(1), 7));
        int use = t.y.using(t.c(8));
        due("42: the file before", t.y.setFile(2), 0);
        int other = t.tried(t.call(t.n(1), 7));
        t.y.setFile(0);
        int same = t.p(t.call(t.n(1), 7));
        int through = t.tried(t.send(9));
        due("38 42: of its file alone, where the call stands", t.run(module, method, use, other, same, through), "d o3 n8 o3");
        RefinementsTest u = new RefinementsTest();
        int refined = u.module(8, u.refine(1, u.define(7, u.n(8))));
        u.y.setFile(3);
        int third = u.y.using(u.c(8));
        int there = u.p(u.call(u.n(1), 7));
        due("42: the file before", u.y.setFile(0), 3);
        int first = u.tried(u.call(u.n(1), 7));
        due("38 42: of another file", u.run(refined, third, first, there), "d o3 n8");
    }

    private static void lastFirst() {
        RefinementsTest t = new RefinementsTest();
        due("38: the last one used first", t.run(t.module(8, t.refine(1, t.define(7, t.n(8)))), t.module(9, t.seq(t.refine(1, t.define(7, t.n(9))), t.refine(1, t.define(6, t.n(6))))), t.y.using(t.c(8)), t.y.using(t.c(9)),
                t.p(t.call(t.n(1), 7)), t.p(t.call(t.n(1), 6)), t.y.using(t.c(8)), t.p(t.call(t.n(1), 7))), "d n9 n6 n8");
        RefinementsTest v = new RefinementsTest();
        due("37: place after place, before what the class has itself, behind what is ahead of it", v.run(v.type(6, v.seq(v.define(7, v.n(6)), v.define(9, v.n(60)))), v.module(10, v.define(9, v.n(10))), v.type(6, v.ahead(10)), v.module(8, v.seq(v.refine(0, v.define(7, v.n(8))), v.refine(6, v.define(9, v.n(9))))),
                v.y.using(v.c(8)), v.p(v.call(v.fresh(6), 7)), v.p(v.call(v.fresh(6), 9)), v.p(v.call(v.n(1), 7))), "d n6 n10 n8");
    }

    private static void supers() {
        RefinementsTest t = new RefinementsTest();
        due("14 37: super from a refinement on what its place has itself", t.run(t.define(7, t.n(1)), t.type(6, t.define(7, t.call(t.y.superCall(true, -1, -1), 10, t.n(10)))), t.module(8, t.refine(6, t.define(7, t.call(t.y.superCall(true, -1, -1), 10, t.n(100))))),
                t.y.using(t.c(8)), t.p(t.call(t.fresh(6), 7))), "d n111");
        RefinementsTest u = new RefinementsTest();
        due("14 37: or behind it; not another refinement of the place", u.run(u.define(7, u.n(1)), u.type(6, u.nil()), u.module(8, u.refine(6, u.define(7, u.n(8)))), u.module(9, u.refine(6, u.define(7, u.call(u.y.superCall(true, -1, -1), 10, u.n(100))))),
                u.y.using(u.c(8)), u.y.using(u.c(9)), u.p(u.call(u.fresh(6), 7))), "d n101");
        RefinementsTest v = new RefinementsTest();
        int above = v.type(6, v.nil());
        int refined = v.module(8, v.refine(6, v.define(7, v.n(8))));
        int use = v.y.using(v.c(8));
        due("14 38: super finds refinements that are used where it stands", v.run(above, refined, use, v.type(7, 6, v.define(7, v.call(v.y.superCall(true, -1, -1), 10, v.n(1)))), v.p(v.call(v.fresh(7), 7))), "d n9");
        RefinementsTest w = new RefinementsTest();
        due("33 37: undefined in the class, found in the refinement", w.run(w.type(6, w.seq(w.define(7, w.n(1)), w.y.undefine(7))), w.module(8, w.refine(6, w.define(7, w.y.superCall(true, -1, -1)))), w.y.using(w.c(8)), w.define(7, w.n(2)), w.call(w.fresh(6), 7)), "e3");
    }

    private static void bodies() {
        RefinementsTest t = new RefinementsTest();
        due("37: it gives what its body gives; self, locals and the innermost one stay", t.run(t.module(8, t.seq(t.set(0, t.n(4)), t.y.visibility('r'), t.p(t.refine(1, t.seq(t.p(t.self()), t.p(t.l(0)), t.set(0, t.n(5)), t.y.setConstant(9, t.n(6)), t.define(7, t.c(9)), t.n(3)))),
                t.p(t.l(0)), t.p(t.c(9)), t.define(2, t.nil()), t.p(t.y.responds(t.self(), 2)))), t.y.using(t.c(8)), t.p(t.call(t.n(1), 7)), t.p(t.y.responds(t.n(1), 7))), "d m6 n4 n3 n5 n6 F n6 T");
        RefinementsTest u = new RefinementsTest();
        due("37: its methods are no methods of the module, and 5 is not called", u.run(u.define(5, 1, u.p(u.l(0))), u.module(8, u.refine(1, u.define(7, u.n(1)))), u.set(0, u.fresh(0)), u.y.mix('e', u.l(0), u.c(8)), u.call(u.l(0), 7)), "e3 s5");
        RefinementsTest v = new RefinementsTest();
        due("37: in a method of it, definitions are those of the innermost one", v.run(v.module(8, v.refine(1, v.define(7, v.define(9, v.n(9))))), v.y.using(v.c(8)), v.call(v.n(1), 7), v.tried(v.call(v.n(1), 9)), v.set(0, v.fresh(0)), v.y.mix('e', v.l(0), v.c(8)), v.p(v.call(v.l(0), 9))),
                "d o3 n9");
        RefinementsTest z = new RefinementsTest();
        due("15 37: in a block, as where it was made", z.run(z.define(9, z.y.yields(-1, -1)), z.module(8, z.refine(1, z.seq(z.set(0, z.fresh(0)), z.y.call(z.l(0), 9, -1, -1, z.block(z.define(7, z.n(7)))),
                z.y.setConstant(10, z.y.proc(z.block(z.define(6, z.n(6))), true))))), z.module(8, z.seq(z.call(z.c(10), 15), z.define(2, z.nil()))), z.y.using(z.c(8)), z.p(z.call(z.n(1), 7)), z.p(z.call(z.n(1), 6)),
                z.p(z.y.responds(z.n(1), 2))), "d n7 n6 F");
        RefinementsTest w = new RefinementsTest();
        due("37: a body in it is one of its own", w.run(w.module(8, w.refine(1, w.seq(w.type(7, w.define(7, w.n(7))), w.y.alias(2, 2)))), w.nil()), "e3");
        due("53: in the class", w.y.ownerOf(7, 7), 7);
        RefinementsTest x = new RefinementsTest();
        due("37: of a frozen class, by a frozen module", x.run(x.y.freeze(x.c(1)), x.module(8, x.seq(x.y.freeze(x.self()), x.refine(1, x.define(7, x.n(7))))), x.y.using(x.c(8)), x.p(x.call(x.n(1), 7))), "d n7");
    }

    private static void wrong() {
        RefinementsTest t = new RefinementsTest();
        due("37 38: no module, no class", t.run(t.tried(t.refine(1, t.p(t.n(1)))), t.type(6, t.tried(t.refine(1, t.p(t.n(1))))), t.module(8, t.seq(t.tried(t.refine(8, t.p(t.n(1)))), t.tried(t.y.refine(t.n(1), t.p(t.n(1)))))),
                t.tried(t.y.using(t.c(6))), t.tried(t.y.using(t.p(t.n(2)))), t.p(t.y.using(t.c(8)))), "d o2 o2 o2 o2 o2 n2 o2 m7");
        due("56: one", t.y.definitions(), 1);
    }

    private static void others() {
        RefinementsTest t = new RefinementsTest();
        due("40 32: responding and aliasing find them, too", t.run(t.type(6, t.nil()), t.module(8, t.refine(6, t.define(7, t.n(8)))), t.p(t.y.responds(t.fresh(6), 7)), t.y.using(t.c(8)), t.p(t.y.responds(t.fresh(6), 7)), t.type(6, t.y.alias(9, 7)), t.p(t.call(t.fresh(6), 9))), "d F T n8");
        RefinementsTest v = new RefinementsTest();
        due("33: undefining finds them, too, and leaves them", v.run(v.type(6, v.nil()), v.module(8, v.refine(6, v.define(7, v.n(8)))), v.y.using(v.c(8)), v.type(6, v.p(v.y.undefine(7))), v.p(v.call(v.fresh(6), 7)),
                v.define(9, v.n(9)), v.type(6, v.y.undefine(9)), v.tried(v.call(v.fresh(6), 9))), "d N n8 o3");
        RefinementsTest w = new RefinementsTest();
        due("37: an own place is not refined", w.run(w.module(8, w.refine(0, w.define(7, w.n(8)))), w.y.using(w.c(8)), w.set(0, w.fresh(0)), w.y.defineOn(w.l(0), 7, 0, -1, w.n(1)), w.p(w.call(w.l(0), 7)),
                w.p(w.call(w.nil(), 7))), "d n1 n8");
        RefinementsTest u = new RefinementsTest();
        due("12: what is told of 0 and 1, and hooks", u.run(u.module(8, u.seq(u.refine(0, u.define(1, 2, u.l(0))), u.refine(0, u.define(0, u.p(u.n(4)))), u.refine(0, u.define(3, 1, u.p(u.l(0)))))), u.tried(u.send(9)), u.p(u.fresh(0)), u.y.using(u.c(8)), u.p(u.send(9)), u.p(u.fresh(0)), u.type(6, u.nil())),
                "d o3 o0 s9 n4 o0 c7");
    }
}
