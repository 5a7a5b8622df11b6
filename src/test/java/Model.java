import java.util.ArrayDeque;
import java.util.ArrayList;
import java.util.Arrays;
import java.util.HashMap;
import java.util.LinkedHashSet;
import java.util.List;
import java.util.Map;
import java.util.Set;
import java.util.TreeSet;

/**
 * The language once more, written from the document: it calls itself, leaves by exceptions, and looks everything up anew.
 * It shares no code with the class, but its readings of the document (NOTES.md): it finds slips, not misreadings.
 */
final class Model {
    private static final int DEEPEST = 40;
    private static final int MOST_PRINTS = 60;

    /** A node, with the name of the method of the face that makes it. */
    record Node(String kind, int name, int other, int[] parts, int file, int number) { }

    static class Thing { }

    static final Thing NIL = new Thing();
    static final Thing TRUE = new Thing();
    static final Thing FALSE = new Thing();

    static final class Number extends Thing {
        final int value;

        Number(int value) {
            this.value = value;
        }
    }

    static final class Message extends Thing {
        final int value;

        Message(int value) {
            this.value = value;
        }
    }

    static final class Proc extends Thing {
        final Closure closure;

        Proc(Closure closure) {
            this.closure = closure;
        }
    }

    /** What has fields and an own place. */
    static class Holder extends Thing {
        final Thing[] fields = nils();
        final List<Type> extending = new ArrayList<>();
        Place own = null;
        boolean isFrozen = false;
    }

    static final class Instance extends Holder {
        final Type type;
        Thing cause = NIL;

        Instance(Type type) {
            this.type = type;
        }
    }

    /** A class or module. */
    static final class Type extends Holder {
        final boolean isModule;
        final Type above;
        final int number;
        final Place place;
        final List<Type> ahead = new ArrayList<>();
        final List<Type> included = new ArrayList<>();
        final Map<Integer, Thing> constants = new HashMap<>();

        Type(boolean isModule, Type above, int number) {
            this.isModule = isModule;
            this.above = above;
            this.number = number;
            this.place = new Place(this);
        }
    }

    /** What a place has for a message: a definition, or nothing if it was undefined there. */
    record Entry(Node definition, Scope scope, char visibility) { }

    static final class Place {
        final Type owner;
        final Map<Integer, Entry> entries = new HashMap<>();
        final Map<Type, Map<Integer, Entry>> refinements = new HashMap<>();

        Place(Type owner) {
            this.owner = owner;
        }
    }

    record Found(Entry entry, Place place, boolean isRefined) { }

    record Scope(Type innermost, Scope around) { }

    record Using(Type module, int file, int node) { }

    record Kept(Object key, int definitions, Found found) { }

    /** Something that can be left; what is left by is compared by identity. */
    static class Leavable {
        boolean isOver = false;
    }

    static final class Handling {
        final Instance got;

        Handling(Instance got) {
            this.got = got;
        }
    }

    record Catching(Thing tag, Leavable exit) { }

    record Closure(Node block, Frame around, Leavable call, boolean isLambda, Map<Integer, Entry> refinement) { }

    /** Where nodes are worked out: 'P' the program, 'M' a method, 'B' a block, 'L' a lambda, 'T' the body of a class or module. */
    static final class Frame extends Leavable {
        final char kind;
        final Thing self;
        final Scope scope;
        final Thing[] locals = nils();
        final boolean[] has = new boolean[6];
        final ArrayDeque<Leavable> loops = new ArrayDeque<>();
        final ArrayDeque<Handling> handlers = new ArrayDeque<>();
        final ArrayDeque<Map<Integer, Entry>> refining = new ArrayDeque<>();
        Frame around = null;
        Frame method = null;
        Found found = null;
        Closure given = null;
        Closure made = null;
        char visibility = 'u';

        Frame(char kind, Thing self, Scope scope) {
            this.kind = kind;
            this.self = self;
            this.scope = scope;
            Arrays.fill(has, kind != 'B' && kind != 'L');
        }
    }

    static class Signal extends RuntimeException {
        private static final long serialVersionUID = 1;

        Signal() {
            super(null, null, false, false);
        }
    }

    static final class Raised extends Signal {
        private static final long serialVersionUID = 1;
        final transient Instance thing;

        Raised(Instance thing) {
            this.thing = thing;
        }
    }

    /** Leaving; without anything to leave it is the whole program. */
    static final class Left extends Signal {
        private static final long serialVersionUID = 1;
        final transient Leavable exit;
        final transient Thing value;

        Left(Leavable exit, Thing value) {
            this.exit = exit;
            this.value = value;
        }
    }

    static final class Again extends Signal {
        private static final long serialVersionUID = 1;
        final transient Object turn;

        Again(Object turn) {
            this.turn = turn;
        }
    }

    static final class Limit extends RuntimeException {
        private static final long serialVersionUID = 1;

        Limit() {
            super(null, null, false, false);
        }
    }

    final List<Node> nodes = new ArrayList<>();
    /** What programs came to, so that a test can see that they come to all of it. */
    final Set<String> reached = new TreeSet<>();
    int file = 0;
    boolean isKeeping = true;

    List<Type> types = new ArrayList<>();
    List<Thing> prints = new ArrayList<>();
    private List<Using> usings = new ArrayList<>();
    private List<Catching> catchings = new ArrayList<>();
    private ArrayDeque<Handling> handlings = new ArrayDeque<>();
    private Map<Integer, Kept> kept = new HashMap<>();
    private int limit;
    private int depth;
    int steps;
    int hits;
    int misses;
    int definitions;
    int warnings;
    Instance raised = null;

    private static Thing[] nils() {
        Thing[] all = new Thing[6];
        Arrays.fill(all, NIL);
        return all;
    }

    int add(String kind, int name, int other, int... parts) {
        nodes.add(new Node(kind, name, other, parts, file, nodes.size()));
        return nodes.size() - 1;
    }

    char run(int node, int limit) {
        begin(limit);
        Frame frame = new Frame('P', NIL, new Scope(object(), null));
        try {
            give(node, frame);
            return 'd';
        } catch (Raised e) {
            raised = e.thing;
            return 'e';
        } catch (Left e) {
            return 'd';
        } catch (Limit e) {
            return 'l';
        }
    }

    private void begin(int limit) {
        types = new ArrayList<>();
        prints = new ArrayList<>();
        usings = new ArrayList<>();
        catchings = new ArrayList<>();
        handlings = new ArrayDeque<>();
        kept = new HashMap<>();
        this.limit = limit;
        depth = 0;
        steps = 0;
        hits = 0;
        misses = 0;
        definitions = 0;
        warnings = 0;
        raised = null;
        for (int i = 0; i < 6; i++) {
            Type type = addType(false, i == 0 ? null : i < 3 ? types.get(0) : types.get(2));
            object().constants.put(i, type);
        }
    }

    private Type addType(boolean isModule, Type above) {
        Type type = new Type(isModule, above, types.size());
        types.add(type);
        return type;
    }

    private Type object() {
        return types.get(0);
    }

    // Lineages and finding.

    private static void expand(Type type, List<Place> all) {
        for (int i = type.ahead.size() - 1; i >= 0; i--) {
            expand(type.ahead.get(i), all);
        }
        all.add(type.place);
        for (int i = type.included.size() - 1; i >= 0; i--) {
            expand(type.included.get(i), all);
        }
        if (type.above != null) {
            expand(type.above, all);
        }
    }

    private static void expandOwn(Holder thing, List<Place> all) {
        if (thing.own != null) {
            all.add(thing.own);
        }
        for (int i = thing.extending.size() - 1; i >= 0; i--) {
            expand(thing.extending.get(i), all);
        }
    }

    static List<Place> lineage(Type type) {
        List<Place> all = new ArrayList<>();
        expand(type, all);
        return new ArrayList<>(new LinkedHashSet<>(all));
    }

    private List<Place> lineageOf(Thing thing) {
        List<Place> all = new ArrayList<>();
        if (thing instanceof Type type && !type.isModule) {
            for (Type each = type; each != null; each = each.above) {
                expandOwn(each, all);
            }
        } else if (thing instanceof Holder holder) {
            expandOwn(holder, all);
        }
        expand(classOf(thing), all);
        return new ArrayList<>(new LinkedHashSet<>(all));
    }

    Type classOf(Thing thing) {
        if (thing instanceof Instance instance) {
            return instance.type;
        }
        return types.get(thing instanceof Number ? 1 : 0);
    }

    /** What is found from a place of a lineage on, perhaps behind its refinements; null if nothing is. */
    Found find(List<Place> lineage, int message, Node node, int from, boolean isBehindRefinements) {
        for (int i = from; i < lineage.size(); i++) {
            Place place = lineage.get(i);
            Entry refined = i == from && isBehindRefinements || node == null ? null : refinedEntry(place, message, node);
            if (refined != null) {
                return new Found(refined, place, true);
            }
            if (place.entries.containsKey(message)) {
                return new Found(place.entries.get(message), place, false);
            }
        }
        return null;
    }

    private Entry refinedEntry(Place place, int message, Node node) {
        for (int i = usings.size() - 1; i >= 0; i--) {
            Using using = usings.get(i);
            Map<Integer, Entry> refinement = place.refinements.get(using.module);
            if (using.file == node.file && using.node < node.number && refinement != null && refinement.containsKey(message)) {
                return refinement.get(message);
            }
        }
        return null;
    }

    private Found findIn(Thing thing, int message, Node node) {
        return find(lineageOf(thing), message, node, 0, false);
    }

    static boolean isMethod(Found found) {
        return found != null && found.entry.definition != null;
    }

    // Things.

    private static boolean isSame(Thing one, Thing other) {
        boolean isNumber = one instanceof Number a && other instanceof Number b && a.value == b.value;
        boolean isMessage = one instanceof Message a && other instanceof Message b && a.value == b.value;
        return one == other || isNumber || isMessage;
    }

    private static boolean isTrue(Thing thing) {
        return thing != NIL && thing != FALSE;
    }

    private static Thing truth(boolean is) {
        return is ? TRUE : FALSE;
    }

    private static boolean isFrozen(Thing thing) {
        return !(thing instanceof Holder holder) || holder.isFrozen;
    }

    private Raised raise(Instance thing) {
        Handling handling = handlings.peek();
        if (handling != null && thing.cause == NIL && handling.got != thing) {
            thing.cause = handling.got;
            reached.add("a cause");
        }
        return new Raised(thing);
    }

    /** Raises a new thing of a class of the beginning: 2 Error, 3 NoMethod, 4 Broken, 5 Frozen. */
    private Raised fresh(int type) {
        reached.add("a new " + type);
        return raise(new Instance(types.get(type)));
    }

    // Nodes.

    private Thing give(int number, Frame f) {
        if (steps >= limit) {
            throw new Limit();
        }
        steps++;
        Node n = nodes.get(number);
        return switch (n.kind) {
            case "number" -> new Number(n.name);
            case "message" -> new Message(n.name);
            case "plain" -> n.name == 'S' ? f.self : n.name == 'N' ? NIL : truth(n.name == 'T');
            case "local" -> local(f, n.name);
            case "field" -> field(f, n.name);
            case "constant" -> constant(f, n.name);
            case "setLocal", "setField", "setConstant" -> set(n, f, give(n.parts[0], f));
            case "orSet" -> orSet(n, f);
            case "call", "safeCall" -> call(n, f);
            case "superCall" -> superCall(n, f);
            case "proc" -> new Proc(new Closure(nodes.get(n.parts[0]), f, null, n.name == 1, f.refining.peek()));
            case "yields" -> yields(n, f);
            case "leave" -> throw leave(n, f, n.parts[0] < 0 ? NIL : give(n.parts[0], f));
            case "raises" -> throw raises(n, give(n.parts[0], f));
            case "attempt" -> attempt(n, f);
            case "retry" -> throw retry(f);
            case "catches" -> catches(n, f);
            case "throwsTo" -> throw throwsTo(give(n.parts[0], f), give(n.parts[1], f));
            case "both", "choice", "loop" -> flow(n, f);
            case "isA", "responds", "print", "freeze" -> ask(n, f, give(n.parts[0], f));
            default -> define(n, f);
        };
    }

    private Thing flow(Node n, Frame f) {
        if (n.kind.equals("loop")) {
            return loop(n, f);
        }
        Thing first = give(n.parts[0], f);
        int next = n.kind.equals("both") || isTrue(first) ? n.parts[1] : n.parts[2];
        return next < 0 ? NIL : give(next, f);
    }

    private Thing ask(Node n, Frame f, Thing thing) {
        if (n.kind.equals("isA")) {
            if (!(give(n.parts[1], f) instanceof Type type)) {
                throw fresh(2);
            }
            return truth(lineageOf(thing).contains(type.place));
        }
        if (n.kind.equals("responds")) {
            Found found = findIn(thing, n.name, n);
            return truth(isMethod(found) && found.entry.visibility == 'u');
        }
        if (n.kind.equals("freeze") && thing instanceof Holder holder) {
            holder.isFrozen = true;
        }
        if (n.kind.equals("print") && prints.size() < MOST_PRINTS) {
            prints.add(thing);
        }
        return thing;
    }

    private static Frame frameOf(Frame f, int local) {
        return f.has[local] ? f : frameOf(f.around, local);
    }

    private static Thing local(Frame f, int local) {
        return frameOf(f, local).locals[local];
    }

    private static Thing field(Frame f, int field) {
        return f.self instanceof Holder holder ? holder.fields[field] : NIL;
    }

    private Thing constant(Frame f, int constant) {
        Type holder = holderOf(f.scope, constant);
        if (holder == null) {
            throw fresh(2);
        }
        return holder.constants.get(constant);
    }

    private Type holderOf(Scope scope, int constant) {
        for (Scope each = scope; each != null; each = each.around) {
            if (each.innermost != object() && each.innermost.constants.containsKey(constant)) {
                return each.innermost;
            }
        }
        for (Place place : lineage(scope.innermost)) {
            if (place.owner.constants.containsKey(constant)) {
                return place.owner;
            }
        }
        return object().constants.containsKey(constant) ? object() : null;
    }

    private Thing set(Node n, Frame f, Thing thing) {
        if (n.other == 'l') {
            frameOf(f, n.name).locals[n.name] = thing;
            return thing;
        }
        Type innermost = f.scope.innermost;
        if (isFrozen(n.other == 'f' ? f.self : innermost)) {
            throw fresh(5);
        }
        if (n.other == 'f') {
            ((Holder) f.self).fields[n.name] = thing;
        } else {
            warnings += innermost.constants.containsKey(n.name) ? 1 : 0;
            innermost.constants.put(n.name, thing);
        }
        return thing;
    }

    private Thing orSet(Node n, Frame f) {
        Type holder = n.other == 'c' ? holderOf(f.scope, n.name) : null;
        Thing there = n.other == 'l' ? local(f, n.name) : n.other == 'f' ? field(f, n.name) : holder == null ? NIL : holder.constants.get(n.name);
        return isTrue(there) ? there : set(n, f, give(n.parts[0], f));
    }

    // Calls.

    private List<Thing> arguments(Node n, Frame f, int from) {
        List<Thing> all = new ArrayList<>();
        for (int i = from; i < from + 2; i++) {
            if (n.parts[i] >= 0) {
                all.add(give(n.parts[i], f));
            }
        }
        return all;
    }

    private static Thing first(List<Thing> arguments) {
        return arguments.isEmpty() ? NIL : arguments.get(0);
    }

    private Thing call(Node n, Frame f) {
        boolean isSafe = n.kind.equals("safeCall");
        Thing receiver = n.parts[0] < 0 ? f.self : give(n.parts[0], f);
        if (isSafe && receiver == NIL) {
            return NIL;
        }
        List<Thing> arguments = arguments(n, f, 1);
        Leavable exit = new Leavable();
        Closure block = isSafe || n.parts[3] < 0 ? null : new Closure(nodes.get(n.parts[3]), f, exit, false, f.refining.peek());
        Found found = look(n, receiver);
        try {
            boolean isCalled = isMethod(found) && (n.parts[0] < 0 || mayCall(found, f.self));
            return isCalled ? invoke(found, receiver, arguments, block) : answer(n, n.name, found, receiver, arguments, block);
        } catch (Left e) {
            if (e.exit != exit) {
                throw e;
            }
            reached.add("a call that is left");
            return e.value;
        } finally {
            exit.isOver = true;
        }
    }

    private Found look(Node n, Thing receiver) {
        boolean isItself = receiver instanceof Type || receiver instanceof Holder holder && (holder.own != null || !holder.extending.isEmpty());
        Object key = isItself ? receiver : "class " + classOf(receiver).number;
        Kept last = kept.get(n.number);
        if (isKeeping && last != null && last.key.equals(key) && last.definitions == definitions) {
            hits++;
            return last.found;
        }
        Found found = findIn(receiver, n.name, n);
        if (isKeeping) {
            misses++;
            kept.put(n.number, new Kept(key, definitions, found));
        }
        return found;
    }

    private boolean mayCall(Found found, Thing self) {
        char visibility = found.entry.visibility;
        boolean may = visibility == 'u' || visibility == 'o' && lineageOf(self).contains(found.place);
        reached.add((may ? "called " : "not called ") + visibility);
        return may;
    }

    /** What a call gives where no method can be called. */
    private Thing answer(Node n, int message, Found found, Thing receiver, List<Thing> arguments, Closure block) {
        if (found == null && message >= 10 && message <= 12 && receiver instanceof Number number) {
            return reckon(message, number.value, first(arguments));
        }
        if (found == null && message == 13) {
            return truth(isSame(receiver, first(arguments)));
        }
        if (found == null && message == 14 && receiver instanceof Type type && !type.isModule) {
            return make(n, type, arguments);
        }
        if (found == null && message == 15 && receiver instanceof Proc proc) {
            return callBlock(proc.closure, arguments);
        }
        if (found == null && message == 16 && receiver instanceof Instance instance) {
            return instance.cause;
        }
        Found missing = findIn(receiver, 1, n);
        if (!isMethod(missing)) {
            throw fresh(3);
        }
        reached.add(found == null ? "1 of what is not found" : isMethod(found) ? "1 of what may not be called" : "1 of what is hidden");
        return invoke(missing, receiver, List.of(new Message(message), first(arguments)), block);
    }

    private Thing reckon(int message, int left, Thing argument) {
        if (!(argument instanceof Number right)) {
            throw fresh(2);
        }
        return message == 12 ? truth(left < right.value) : new Number(message == 10 ? left + right.value : left - right.value);
    }

    private Instance make(Node n, Type type, List<Thing> arguments) {
        if (type == types.get(1)) {
            throw fresh(2);
        }
        Instance made = new Instance(type);
        Found found = findIn(made, 0, n);
        if (isMethod(found)) {
            reached.add("0 of what is made");
            invoke(found, made, arguments, null);
        }
        return made;
    }

    private void hook(Node n, Thing thing, int message, Thing argument) {
        Found found = findIn(thing, message, n);
        if (isMethod(found)) {
            reached.add("hook " + message);
            invoke(found, thing, List.of(argument), null);
        }
    }

    private void deepen(boolean isRightNumber) {
        if (!isRightNumber) {
            throw fresh(2);
        }
        if (depth >= DEEPEST) {
            reached.add("too deep");
            throw fresh(4);
        }
        depth++;
    }

    private static int most(Node definition) {
        return definition.parts[1] < 0 ? definition.other : definition.other + 1;
    }

    private Thing invoke(Found found, Thing self, List<Thing> arguments, Closure block) {
        Node n = found.entry.definition;
        deepen(arguments.size() >= n.other && arguments.size() <= most(n));
        reached.add(found.isRefined ? "a method of a refinement" : found.place.owner == null ? "a method of an own place" : "a method");
        Frame f = new Frame('M', self, found.entry.scope);
        f.method = f;
        f.found = found;
        f.given = block;
        for (int i = 0; i < arguments.size(); i++) {
            f.locals[i] = arguments.get(i);
        }
        try {
            if (arguments.size() < most(n)) {
                f.locals[n.other] = give(n.parts[1], f);
            }
            return give(n.parts[2], f);
        } catch (Left e) {
            return leftBy(e, f);
        } finally {
            f.isOver = true;
            depth--;
        }
    }

    private static Thing leftBy(Left e, Frame f) {
        if (e.exit != f) {
            throw e;
        }
        return e.value;
    }

    private Thing superCall(Node n, Frame f) {
        Frame method = f.method;
        if (method == null) {
            throw fresh(4);
        }
        Node defined = method.found.entry.definition;
        List<Thing> arguments = n.name == 1 ? List.of(method.locals).subList(0, most(defined)) : arguments(n, f, 0);
        List<Place> lineage = lineageOf(method.self);
        int place = lineage.indexOf(method.found.place);
        boolean isRefined = method.found.isRefined;
        Found found = find(lineage, defined.name, n, isRefined ? place : place + 1, isRefined);
        reached.add(isRefined ? "super of a refinement" : f == method ? "super" : "super in a block");
        return isMethod(found) ? invoke(found, method.self, arguments, method.given)
                : answer(n, defined.name, found, method.self, arguments, method.given);
    }

    private Thing yields(Node n, Frame f) {
        List<Thing> arguments = arguments(n, f, 0);
        if (f.method == null || f.method.given == null) {
            throw fresh(4);
        }
        return callBlock(f.method.given, arguments);
    }

    private Thing callBlock(Closure closure, List<Thing> arguments) {
        Node n = closure.block;
        int parameters = n.parts[1];
        deepen(!closure.isLambda || arguments.size() == parameters);
        reached.add(closure.isLambda ? "a lambda" : closure.call == null ? "a proc" : "a block");
        Frame f = new Frame(closure.isLambda ? 'L' : 'B', closure.around.self, closure.around.scope);
        f.around = closure.around;
        f.method = closure.around.method;
        f.made = closure;
        if (closure.refinement != null) {
            f.refining.push(closure.refinement);
        }
        for (int i = 0; i < parameters; i++) {
            int local = i == 0 ? n.name : n.other;
            f.has[local] = true;
            f.locals[local] = i < arguments.size() ? arguments.get(i) : NIL;
        }
        try {
            return give(n.parts[0], f);
        } catch (Left e) {
            return leftBy(e, f);
        } finally {
            f.isOver = true;
            depth--;
        }
    }

    // Leaving, raising and throwing.

    private Signal leave(Node n, Frame f, Thing value) {
        if (n.name == 'r') {
            return leaveHome(f, value);
        }
        if (!f.loops.isEmpty()) {
            return n.name == 'b' ? new Left(f.loops.peek(), NIL) : new Again(f.loops.peek());
        }
        if (f.kind == 'L' || f.kind == 'B' && n.name == 'n') {
            return new Left(f, value);
        }
        boolean isOn = f.kind == 'B' && f.made.call != null && !f.made.call.isOver;
        return isOn ? new Left(f.made.call, value) : fresh(4);
    }

    private Signal leaveHome(Frame f, Thing value) {
        Frame home = f;
        while (home.kind == 'B') {
            home = home.around;
        }
        if (home.kind != 'L' && home.kind != 'M') {
            return new Left(null, value);
        }
        reached.add((home.kind == 'L' ? "r of a lambda" : "r of a method") + (home.isOver ? " that is over" : ""));
        return home.isOver ? fresh(4) : new Left(home, value);
    }

    private Thing loop(Node n, Frame f) {
        Leavable exit = new Leavable();
        f.loops.push(exit);
        try {
            while (turns(n, f, exit)) {
                reached.add("a turn");
            }
            return NIL;
        } catch (Left e) {
            if (e.exit != exit) {
                throw e;
            }
            return e.value;
        } finally {
            f.loops.pop();
        }
    }

    private boolean turns(Node n, Frame f, Leavable exit) {
        try {
            if (!isTrue(give(n.parts[0], f))) {
                return false;
            }
            give(n.parts[1], f);
        } catch (Again e) {
            if (e.turn != exit) {
                throw e;
            }
        }
        return true;
    }

    private Signal raises(Node n, Thing told) {
        boolean isMade = told instanceof Type type && !type.isModule && type != types.get(1);
        Thing thing = isMade ? make(n, (Type) told, List.of()) : told;
        boolean isError = lineageOf(thing).contains(types.get(2).place);
        return isError && thing instanceof Instance instance ? raise(instance) : fresh(2);
    }

    private Thing attempt(Node n, Frame f) {
        Thing value;
        try {
            value = bodyAndHandler(n, f);
        } catch (Signal e) {
            if (n.parts[3] >= 0) {
                reached.add("a last part behind " + e.getClass().getSimpleName());
                give(n.parts[3], f);
            }
            throw e;
        }
        if (n.parts[3] >= 0) {
            give(n.parts[3], f);
        }
        return value;
    }

    private Thing bodyAndHandler(Node n, Frame f) {
        while (true) {
            Instance got;
            try {
                Thing value = give(n.parts[0], f);
                got = null;
                if (n.parts[2] < 0) {
                    return value;
                }
            } catch (Raised e) {
                got = gets(n, f, e);
            }
            if (got == null) {
                return give(n.parts[2], f);
            }
            frameOf(f, n.other).locals[n.other] = got;
            Handling handling = new Handling(got);
            f.handlers.push(handling);
            handlings.push(handling);
            try {
                return give(n.parts[1], f);
            } catch (Again e) {
                if (e.turn != handling) {
                    throw e;
                }
            } finally {
                f.handlers.pop();
                handlings.pop();
            }
        }
    }

    private Instance gets(Node n, Frame f, Raised e) {
        Type holder = n.name < 0 ? null : holderOf(f.scope, n.name);
        Thing wanted = n.name < 0 ? types.get(2) : holder == null ? NIL : holder.constants.get(n.name);
        if (!(wanted instanceof Type type)) {
            reached.add("a new Error in place of it");
            throw fresh(2);
        }
        if (!lineageOf(e.thing).contains(type.place)) {
            throw e;
        }
        return e.thing;
    }

    private Signal retry(Frame f) {
        if (f.handlers.isEmpty()) {
            return fresh(4);
        }
        reached.add("retrying");
        return new Again(f.handlers.peek());
    }

    private Thing catches(Node n, Frame f) {
        Catching catching = new Catching(give(n.parts[0], f), new Leavable());
        catchings.add(catching);
        try {
            return give(n.parts[1], f);
        } catch (Left e) {
            if (e.exit != catching.exit) {
                throw e;
            }
            reached.add("a catching");
            return e.value;
        } finally {
            catchings.remove(catchings.size() - 1);
        }
    }

    private Signal throwsTo(Thing tag, Thing value) {
        for (int i = catchings.size() - 1; i >= 0; i--) {
            if (isSame(catchings.get(i).tag, tag)) {
                return new Left(catchings.get(i).exit, value);
            }
        }
        return fresh(4);
    }

    // Definitions.

    private Thing define(Node n, Frame f) {
        return switch (n.kind) {
            case "define" -> defineHere(n, f);
            case "defineOn" -> defineOn(n, f, give(n.parts[0], f));
            case "classNode", "moduleNode" -> type(n, f);
            case "mix" -> mix(n, f);
            case "alias" -> change(f, n.name, found(n, f, n.other));
            case "undefine" -> change(f, n.name, found(n, f, n.name) == null ? null : new Entry(null, null, 'u'));
            case "hide" -> hide(n, f);
            case "visibility" -> visibility(n, f);
            case "refine" -> refine(n, f);
            case "using" -> using(n, give(n.parts[0], f));
            default -> throw new IllegalStateException(n.kind);
        };
    }

    private Thing defineHere(Node n, Frame f) {
        Thing message = new Message(n.name);
        if (!f.refining.isEmpty()) {
            f.refining.peek().put(n.name, new Entry(n, f.scope, 'u'));
            definitions++;
            return message;
        }
        Type type = f.scope.innermost;
        if (type.isFrozen) {
            throw fresh(5);
        }
        type.place.entries.put(n.name, new Entry(n, f.scope, f.visibility));
        definitions++;
        hook(n, type, 5, message);
        return message;
    }

    private Thing defineOn(Node n, Frame f, Thing thing) {
        if (!(thing instanceof Holder holder) || holder.isFrozen) {
            throw fresh(5);
        }
        if (holder.own == null) {
            holder.own = new Place(null);
        }
        holder.own.entries.put(n.name, new Entry(n, f.scope, 'u'));
        definitions++;
        return new Message(n.name);
    }

    private Entry found(Node n, Frame f, int message) {
        Found found = find(lineage(f.scope.innermost), message, n, 0, false);
        return isMethod(found) ? found.entry : null;
    }

    private Thing change(Frame f, int message, Entry entry) {
        if (entry == null) {
            throw fresh(3);
        }
        if (f.scope.innermost.isFrozen) {
            throw fresh(5);
        }
        f.scope.innermost.place.entries.put(message, entry);
        definitions++;
        return NIL;
    }

    private Thing hide(Node n, Frame f) {
        Entry old = f.scope.innermost.place.entries.get(n.name);
        boolean isMethod = old != null && old.definition != null;
        return change(f, n.name, isMethod ? new Entry(old.definition, old.scope, (char) n.other) : null);
    }

    private static Thing visibility(Node n, Frame f) {
        if (f.kind == 'T') {
            f.visibility = (char) n.other;
        }
        return NIL;
    }

    private Thing type(Node n, Frame f) {
        boolean isModule = n.kind.equals("moduleNode");
        Thing told = isModule || n.parts[0] < 0 ? object() : give(n.parts[0], f);
        Type innermost = f.scope.innermost;
        Type there = innermost.constants.get(n.name) instanceof Type type ? type : null;
        boolean isClassThere = there != null && !there.isModule;
        boolean isOther = isClassThere && (isModule || (there == object() ? object() : there.above) != told);
        if (!(told instanceof Type above) || above.isModule || isOther) {
            throw fresh(2);
        }
        if (there == null || there.isModule != isModule) {
            if (innermost.isFrozen) {
                throw fresh(5);
            }
            warnings += innermost.constants.containsKey(n.name) ? 1 : 0;
            there = addType(isModule, isModule ? null : above);
            innermost.constants.put(n.name, there);
            if (!isModule) {
                hook(n, above, 3, there);
            }
        }
        return give(n.parts[1], new Frame('T', there, new Scope(there, f.scope)));
    }

    private Thing mix(Node n, Frame f) {
        Type innermost = f.scope.innermost;
        Thing thing = n.name != 'e' ? innermost : n.parts[0] < 0 ? f.self : give(n.parts[0], f);
        Thing told = give(n.parts[1], f);
        if (!(told instanceof Type module) || !module.isModule || n.name != 'e' && lineage(module).contains(innermost.place)) {
            throw fresh(2);
        }
        List<Type> all = n.name == 'i' ? innermost.included : n.name == 'p' ? innermost.ahead : thing instanceof Holder holder ? holder.extending : List.of();
        if (!all.contains(module)) {
            if (isFrozen(thing)) {
                throw fresh(5);
            }
            all.add(module);
            definitions++;
        }
        hook(n, module, 4, thing);
        return module;
    }

    private Thing refine(Node n, Frame f) {
        Type module = f.scope.innermost;
        if (!(give(n.parts[0], f) instanceof Type type) || type.isModule || !module.isModule) {
            throw fresh(2);
        }
        f.refining.push(type.place.refinements.computeIfAbsent(module, key -> new HashMap<>()));
        try {
            return give(n.parts[1], f);
        } finally {
            f.refining.pop();
        }
    }

    private Thing using(Node n, Thing thing) {
        if (!(thing instanceof Type module) || !module.isModule) {
            throw fresh(2);
        }
        usings.add(new Using(module, n.file, n.number));
        definitions++;
        return module;
    }
}
