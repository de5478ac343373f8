/** Promise 7: function, and what functions do. */
public final class Promise07FunctionTest {
    private static final int[] WHOLE = {0, 1, 2, 3, 4, 5, 7, 8, 9, 10, 11, 12};

    public static void main(String[] args) {
        Check check = new Check();
        for (int from : WHOLE) {
            BeanLoom loom = new BeanLoom();
            check.same("from " + from, loom.function(from, 3, 1, 0), 0);
            check.same("to " + from, loom.function(4, from, 1, 0), 1);
        }
        BeanLoom loom = new BeanLoom();
        loom.bean();
        int[] wrong = {-1, 6, 13, 14, 15, 16};
        for (int type : wrong) {
            check.argument("from " + type, () -> loom.function(type, 3, 1, 0));
            check.argument("to " + type, () -> loom.function(3, type, 1, 0));
        }
        check.same("nothing was added", loom.count(2), 0);
        for (int number = 0; number < 8; number++) {
            check.same("up to 8", loom.function(3, 4, number, 1), number);
        }
        check.state("a function too many", () -> loom.function(3, 4, 1, 1));
        check.argument("the argument is told first", () -> loom.function(3, 14, 1, 1));
        BeanLoom built = new BeanLoom();
        built.build();
        check.state("built", () -> built.function(3, 4, 1, 1));
        check.argument("built, and a wrong type", () -> built.function(3, 6, 1, 1));
        results(check);
        check.end();
    }

    private static void results(Check check) {
        check.same("x * a + b", result(3, 3, 7, 3, 5), 26);
        check.same("cast to BYTE", result(3, 0, 100, 3, 5), 49);
        check.same("cast to SHORT", result(3, 1, 30000, 2, 0), -5536);
        check.same("cast to CHAR", result(3, 2, 1, -1, 0), 65535);
        check.same("wraps as a long", result(4, 4, Long.MAX_VALUE, 1, 1), Long.MIN_VALUE);
        check.same("is no int on the way", result(3, 4, Integer.MAX_VALUE, Integer.MAX_VALUE, 0), 4611686014132420609L);
        check.same("BOOLEAN: the lowest bit, 0", result(3, 5, 4, 3, 0), 0);
        check.same("BOOLEAN: the lowest bit, 1", result(3, 5, -7, 1, 0), 1);
        check.same("from BOOLEAN", result(5, 3, 1, 10, 7), 17);

        BeanLoom loom = new BeanLoom();
        loom.bean();
        loom.bean();
        loom.property(15, 1, 12);
        loom.property(16, 1, 10);
        loom.property(15, 2, 12);
        loom.property(16, 2, 10);
        loom.function(12, 10, -2, 1);
        loom.method(15, 16);
        loom.build();
        int source = loom.make(15, 0);
        loom.put(source, 0, loom.make(12, 1));
        int target = loom.map(0, source);
        check.same("one box is made", loom.count(3), 4);
        check.same("a new box", loom.about((int) loom.get(target, 0), 0), 10);
        check.same("its value", loom.get((int) loom.get(target, 0), 0), -1);
        check.same("NULL: the EMPTY value", loom.get(target, 1), -1);
    }

    /** What a function makes of a property's value. */
    private static long result(int from, int to, long v, int a, int b) {
        BeanLoom loom = new BeanLoom();
        loom.bean();
        loom.bean();
        loom.property(15, 1, from);
        loom.property(16, 2, to);
        loom.function(from, to, a, b);
        loom.method(15, 16);
        loom.rule(0, 0, 2, 2);
        loom.rule(0, 4, 2, 0);
        loom.build();
        int source = loom.make(15, 0);
        loom.put(source, 0, v);
        return loom.get(loom.map(0, source), 0);
    }
}
