/** What the tests share: short names for nodes, and a count of the answers that are not due. */
class Check {
    static final int OBJECT = 0;
    static final int NUMBER = 1;
    static final int ERROR = 2;
    static final int NO_METHOD = 3;
    static final int BROKEN = 4;
    static final int FROZEN = 5;

    private static int wrong = 0;
    private static int asked = 0;

    /** A call of the face whose exception is looked at. */
    interface Call {
        Object answer();
    }

    final OpenclassYard y = new OpenclassYard();

    static void due(String what, Object got, Object want) {
        asked++;
        if (!want.equals(got)) {
            wrong++;
            System.out.println(what + " answered " + got + ", due is " + want);
        }
    }

    /** The answer of a call, or the name of what it throws. */
    static Object of(Call call) {
        try {
            return call.answer();
        } catch (RuntimeException e) {
            return e.getClass().getSimpleName();
        }
    }

    static void end() {
        System.out.println(asked + " answers, " + wrong + " not due");
        if (wrong != 0) {
            System.exit(1);
        }
    }

    int n(int value) {
        return y.number(value);
    }

    int nil() {
        return y.plain('N');
    }

    int self() {
        return y.plain('S');
    }

    int yes() {
        return y.plain('T');
    }

    int no() {
        return y.plain('F');
    }

    int message(int message) {
        return y.message(message);
    }

    int l(int local) {
        return y.local(local);
    }

    int set(int local, int value) {
        return y.setLocal(local, value);
    }

    int c(int constant) {
        return y.constant(constant);
    }

    int p(int thing) {
        return y.print(thing);
    }

    /** A call with a receiver and up to two arguments. */
    int call(int receiver, int message, int... arguments) {
        return y.call(receiver, message, at(arguments, 0), at(arguments, 1), -1);
    }

    /** A call without a receiver. */
    int send(int message, int... arguments) {
        return call(-1, message, arguments);
    }

    int fresh(int constant, int... arguments) {
        return call(c(constant), 14, arguments);
    }

    private static int at(int[] numbers, int index) {
        return index < numbers.length ? numbers[index] : -1;
    }

    int seq(int first, int... others) {
        int all = first;
        for (int other : others) {
            all = y.both(all, other);
        }
        return all;
    }

    /** A block without parameters. */
    int block(int body) {
        return y.block(0, 0, 0, body);
    }

    int block(int parameter, int body) {
        return y.block(1, parameter, 0, body);
    }

    int proc(int block) {
        return y.proc(block, false);
    }

    int lambda(int block) {
        return y.proc(block, true);
    }

    /** A call without a receiver that gives a block. */
    int give(int message, int block) {
        return y.call(-1, message, -1, -1, block);
    }

    int define(int message, int body) {
        return y.define(message, 0, -1, body);
    }

    int define(int message, int needed, int body) {
        return y.define(message, needed, -1, body);
    }

    int type(int constant, int body) {
        return y.classNode(constant, -1, body);
    }

    int type(int constant, int above, int body) {
        return y.classNode(constant, c(above), body);
    }

    int module(int constant, int body) {
        return y.moduleNode(constant, body);
    }

    int include(int constant) {
        return y.mix('i', -1, c(constant));
    }

    int ahead(int constant) {
        return y.mix('p', -1, c(constant));
    }

    /** A try that prints the class of what is raised, as its handler. */
    int tried(int body) {
        return y.attempt(body, -1, 5, p(l(5)), -1, -1);
    }

    /** How a run ends, and what it printed: "d n1 o3", or "e4 .." with the class of what was raised. */
    String runLimited(int node, int limit) {
        char end = y.run(node, limit);
        StringBuilder all = new StringBuilder().append(end);
        if (end == 'e') {
            all.append(y.raised());
        }
        for (int i = 0; i < y.printed(); i++) {
            all.append(' ').append(y.kindAt(i));
            if ("nsocm".indexOf(y.kindAt(i)) >= 0) {
                all.append(y.valueAt(i));
            } else {
                due("valueAt of " + y.kindAt(i), y.valueAt(i), 0);
            }
        }
        return all.toString();
    }

    String run(int first, int... others) {
        return runLimited(seq(first, others), 5000);
    }

    String lineage(int index) {
        StringBuilder all = new StringBuilder();
        for (int place = 0; place < y.lineage(index); place++) {
            all.append(place > 0 ? " " : "").append(y.lineageAt(index, place));
        }
        return all.toString();
    }
}
