import java.util.Arrays;
import java.util.List;

/** Nodes that are made twice, in the class and in the model, and what both say of a run of them. */
class Twin {
    final OpenclassYard y = new OpenclassYard();
    final Model model = new Model();
    private final StringBuilder calls = new StringBuilder();

    private int both(int node, String kind, int name, int other, int... parts) {
        int twin = model.add(kind, name, other, parts);
        if (twin != node) {
            throw new IllegalStateException("node " + node + " is " + twin);
        }
        calls.append(kind).append(' ').append(name).append(' ').append(other).append(' ').append(Arrays.toString(parts)).append("; ");
        return node;
    }

    /** The nodes as they were made: the kind, its name, what else there is, and its parts. */
    String calls() {
        return calls.toString();
    }

    int size() {
        return model.nodes.size();
    }

    void setFile(int file) {
        y.setFile(file);
        model.file = file;
        calls.append("file ").append(file).append("; ");
    }

    void setKeeping(boolean is) {
        y.setKeeping(is);
        model.isKeeping = is;
    }

    int number(int value) {
        return both(y.number(value), "number", value, 0);
    }

    int message(int message) {
        return both(y.message(message), "message", message, 0);
    }

    int plain(char kind) {
        return both(y.plain(kind), "plain", kind, 0);
    }

    int local(int local) {
        return both(y.local(local), "local", local, 0);
    }

    int setLocal(int local, int value) {
        return both(y.setLocal(local, value), "setLocal", local, 'l', value);
    }

    int field(int field) {
        return both(y.field(field), "field", field, 0);
    }

    int setField(int field, int value) {
        return both(y.setField(field, value), "setField", field, 'f', value);
    }

    int constant(int constant) {
        return both(y.constant(constant), "constant", constant, 0);
    }

    int setConstant(int constant, int value) {
        return both(y.setConstant(constant, value), "setConstant", constant, 'c', value);
    }

    int orSet(char kind, int name, int value) {
        return both(y.orSet(kind, name, value), "orSet", name, kind, value);
    }

    int call(int receiver, int message, int first, int second, int block) {
        return both(y.call(receiver, message, first, second, block), "call", message, 0, receiver, first, second, block);
    }

    int safeCall(int receiver, int message, int first, int second) {
        return both(y.safeCall(receiver, message, first, second), "safeCall", message, 0, receiver, first, second);
    }

    int superCall(boolean isAsNow, int first, int second) {
        return both(y.superCall(isAsNow, first, second), "superCall", isAsNow ? 1 : 0, 0, first, second);
    }

    int block(int parameters, int first, int second, int body) {
        return both(y.block(parameters, first, second, body), "block", first, second, body, parameters);
    }

    int proc(int block, boolean isLambda) {
        return both(y.proc(block, isLambda), "proc", isLambda ? 1 : 0, 0, block);
    }

    int yields(int first, int second) {
        return both(y.yields(first, second), "yields", 0, 0, first, second);
    }

    int leave(char kind, int value) {
        return both(y.leave(kind, value), "leave", kind, 0, value);
    }

    int both(int first, int second) {
        return both(y.both(first, second), "both", 0, 0, first, second);
    }

    int choice(int condition, int yes, int no) {
        return both(y.choice(condition, yes, no), "choice", 0, 0, condition, yes, no);
    }

    int loop(int condition, int body) {
        return both(y.loop(condition, body), "loop", 0, 0, condition, body);
    }

    int raises(int value) {
        return both(y.raises(value), "raises", 0, 0, value);
    }

    int attempt(int body, int constant, int local, int handler, int other, int last) {
        return both(y.attempt(body, constant, local, handler, other, last), "attempt", constant, local, body, handler, other, last);
    }

    int retry() {
        return both(y.retry(), "retry", 0, 0);
    }

    int catches(int tag, int body) {
        return both(y.catches(tag, body), "catches", 0, 0, tag, body);
    }

    int throwsTo(int tag, int value) {
        return both(y.throwsTo(tag, value), "throwsTo", 0, 0, tag, value);
    }

    int classNode(int constant, int above, int body) {
        return both(y.classNode(constant, above, body), "classNode", constant, 0, above, body);
    }

    int moduleNode(int constant, int body) {
        return both(y.moduleNode(constant, body), "moduleNode", constant, 0, -1, body);
    }

    int define(int message, int needed, int standard, int body) {
        return both(y.define(message, needed, standard, body), "define", message, needed, -1, standard, body);
    }

    int defineOn(int thing, int message, int needed, int standard, int body) {
        return both(y.defineOn(thing, message, needed, standard, body), "defineOn", message, needed, thing, standard, body);
    }

    int mix(char kind, int thing, int module) {
        return both(y.mix(kind, thing, module), "mix", kind, 0, thing, module);
    }

    int alias(int fresh, int old) {
        return both(y.alias(fresh, old), "alias", fresh, old);
    }

    int undefine(int message) {
        return both(y.undefine(message), "undefine", message, 0);
    }

    int visibility(char kind) {
        return both(y.visibility(kind), "visibility", 0, kind);
    }

    int hide(int message, char kind) {
        return both(y.hide(message, kind), "hide", message, kind);
    }

    int freeze(int thing) {
        return both(y.freeze(thing), "freeze", 0, 0, thing);
    }

    int refine(int thing, int body) {
        return both(y.refine(thing, body), "refine", 0, 0, thing, body);
    }

    int using(int module) {
        return both(y.using(module), "using", 0, 0, module);
    }

    int isA(int thing, int module) {
        return both(y.isA(thing, module), "isA", 0, 0, thing, module);
    }

    int responds(int thing, int message) {
        return both(y.responds(thing, message), "responds", message, 0, thing);
    }

    int print(int thing) {
        return both(y.print(thing), "print", 0, 0, thing);
    }

    private static String shown(Model.Thing thing) {
        if (thing instanceof Model.Number number) {
            return "n" + number.value;
        }
        if (thing instanceof Model.Message message) {
            return "s" + message.value;
        }
        if (thing instanceof Model.Instance instance) {
            return "o" + instance.type.number;
        }
        if (thing instanceof Model.Type type) {
            return (type.isModule ? "m" : "c") + type.number;
        }
        return thing == Model.NIL ? "N0" : thing == Model.TRUE ? "T0" : thing == Model.FALSE ? "F0" : "p0";
    }

    /** All that the face can be asked behind a run, as the model says it. */
    String dueOf(int node, int limit) {
        StringBuilder all = new StringBuilder().append(model.run(node, limit)).append(model.steps);
        long sum = 0;
        for (Model.Thing thing : model.prints) {
            all.append(' ').append(shown(thing));
            sum += thing instanceof Model.Number number ? number.value : 0;
        }
        all.append(" raised ").append(model.raised == null ? -1 : model.classOf(model.raised).number);
        int places = 0;
        for (Model.Type type : model.types) {
            List<Model.Place> lineage = Model.lineage(type);
            places += lineage.size();
            all.append(" |");
            lineage.forEach(place -> all.append(' ').append(place.owner.number));
            for (int message = 0; message < 20; message++) {
                Model.Found found = model.find(lineage, message, null, 0, false);
                all.append(Model.isMethod(found) ? " " + message + "@" + found.place().owner.number : "");
            }
        }
        all.append(" hits ").append(model.hits).append(" misses ").append(model.misses).append(" definitions ").append(model.definitions);
        all.append(" warnings ").append(model.warnings).append(" sum ").append(sum).append(" mean ").append((double) places / (double) model.types.size());
        int looks = model.hits + model.misses;
        return all.append(" bits ").append(looks == 0 ? "none" : "" + Float.floatToIntBits((float) model.hits / (float) looks)).toString();
    }

    /** The same as the class says it. */
    String gotOf(int node, int limit) {
        StringBuilder all = new StringBuilder().append(y.run(node, limit)).append(y.steps());
        for (int i = 0; i < y.printed(); i++) {
            all.append(' ').append(y.kindAt(i)).append(y.valueAt(i));
        }
        Object raised = Check.of(y::raised);
        all.append(" raised ").append(raised.equals("NoSuchElementException") ? -1 : raised);
        for (int type = 0; type < y.classes(); type++) {
            all.append(" |");
            for (int place = 0; place < y.lineage(type); place++) {
                all.append(' ').append(y.lineageAt(type, place));
            }
            for (int message = 0; message < 20; message++) {
                int index = type;
                int asked = message;
                Object owner = Check.of(() -> y.ownerOf(index, asked));
                all.append(owner.equals("NoSuchElementException") ? "" : " " + message + "@" + owner);
            }
        }
        all.append(" hits ").append(y.hits()).append(" misses ").append(y.misses()).append(" definitions ").append(y.definitions());
        all.append(" warnings ").append(y.warnings()).append(" sum ").append(y.sum()).append(" mean ").append(y.meanLineage());
        Object bits = Check.of(y::hitBits);
        return all.append(" bits ").append(bits.equals("ArithmeticException") ? "none" : bits).toString();
    }
}
