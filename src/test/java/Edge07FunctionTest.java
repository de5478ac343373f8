/** Promise 7, and what "Terms" says of functions, sentence by sentence. */
public final class Edge07FunctionTest {
    private static final Check CHECK = new Check();
    private static final int MIN = Integer.MIN_VALUE;
    private static final int MAX = Integer.MAX_VALUE;

    public static void main(String[] args) {
        fromOneToOne();
        eightAtMost();
        refusedWhenBuilt();
        wrapsAsALong();
        castToItsResult();
        boxes();
        allEightAreFound();
        CHECK.end();
    }

    /** "from one PRIMITIVE or BOX to one, none of them of DOUBLE"; "IllegalArgumentException if these are not as said". */
    private static void fromOneToOne() {
        for (int from = -1; from < 19; from++) {
            for (int to = -1; to < 19; to++) {
                BeanLoom loom = new BeanLoom();
                loom.bean();
                loom.enumeration(1, 1);
                loom.list(7);
                int a = from;
                int b = to;
                if (good(from) && good(to)) {
                    CHECK.same(from + " to " + to, loom.function(a, b, 0, 0), 0);
                } else {
                    CHECK.argument(from + " to " + to, loom, () -> loom.function(a, b, 0, 0));
                }
            }
        }
        BeanLoom loom = new BeanLoom();
        CHECK.argument("from the least", loom, () -> loom.function(MIN, 3, 0, 0));
        CHECK.argument("to the most", loom, () -> loom.function(3, MAX, 0, 0));
    }

    private static boolean good(int type) {
        return type >= 0 && type < 14 && type != 6 && type != 13;
    }

    /** "at most 8"; "IllegalStateException if .. there are 8". */
    private static void eightAtMost() {
        BeanLoom loom = Looms.pair(3, 4);
        for (int number = 0; number < 8; number++) {
            CHECK.same("its number", loom.function(5, 0, number, number), number);
        }
        CHECK.state("a ninth", loom, () -> loom.function(3, 4, 1, 1));
        CHECK.argument("a ninth from TEXT", loom, () -> loom.function(14, 4, 1, 1));
        CHECK.argument("a ninth to DOUBLE", loom, () -> loom.function(3, 6, 1, 1));
        loom.build();
        int source = loom.make(15, 0);
        loom.put(source, 0, 70);
        CHECK.same("the ninth does nothing", loom.get(loom.map(0, source), 0), 70);
    }

    /** "IllegalStateException if it is built". */
    private static void refusedWhenBuilt() {
        BeanLoom loom = Looms.built();
        CHECK.state("built", loom, () -> loom.function(3, 4, 1, 1));
        CHECK.argument("built, from DOUBLE", loom, () -> loom.function(6, 4, 1, 1));
        CHECK.argument("built, to TEXT", loom, () -> loom.function(3, 14, 1, 1));
        BeanLoom faulty = Looms.pair(14, 6);
        CHECK.argument("a diagnosis", faulty::build);
        CHECK.same("not built", faulty.function(3, 4, 1, 1), 0);
    }

    /** What a function alone makes of a value: of a box's, if the type is one. */
    private static long result(int from, int to, long x, int a, int b) {
        BeanLoom loom = Looms.pair(from, to);
        loom.function(from, to, a, b);
        loom.rule(0, 4, 1, 0);
        loom.build();
        int source = loom.make(15, 0);
        loom.put(source, 0, from < 7 ? x : loom.make(from, x));
        long got = loom.get(loom.map(0, source), 0);
        return to < 7 ? got : loom.get((int) got, 0);
    }

    /** "they take x to x * a + b as a long (that wraps)". */
    private static void wrapsAsALong() {
        long[] numbers = {0, 1, -1, 2, MAX, MIN, MAX + 1L, MIN - 1L, 1L << 32, 1L << 62, Long.MAX_VALUE, Long.MIN_VALUE,
            Long.MIN_VALUE + 1, 3074457345618258603L};
        int[] factors = {0, 1, -1, 2, 3, MAX, MIN};
        for (long x : numbers) {
            for (int a : factors) {
                for (int b : new int[] {0, 1, -1, MAX, MIN}) {
                    CHECK.same(x + " * " + a + " + " + b, result(4, 4, x, a, b), x * a + b);
                }
            }
        }
        CHECK.same("INT times the most is no int", result(3, 4, MAX, MAX, MAX), (long) MAX * MAX + MAX);
        CHECK.same("INT times the least is no int", result(3, 4, MIN, MIN, MIN), (long) MIN * MIN + MIN);
        CHECK.same("BYTE times 128 is no byte", result(0, 3, -128, 128, 0), -16384);
        CHECK.same("CHAR is not below 0", result(2, 4, 65535, 1, 1), 65536);
        CHECK.same("BOOLEAN is 1", result(5, 4, 1, MIN, 0), MIN);
        CHECK.same("BOOLEAN is 0", result(5, 4, 0, MIN, 7), 7);
    }

    /** "CAST to their result (of BOOLEAN: its lowest bit)": at the ends of the ranges and beyond them. */
    private static void castToItsResult() {
        long[] numbers = {0, 1, 2, 3, -1, -2, -3, 127, 128, -128, -129, 255, 256, 32767, 32768, -32768, -32769, 65535, 65536,
            65537, -65536, MAX, MAX + 1L, MIN, MIN - 1L, 1L << 32, (1L << 32) + 1, Long.MAX_VALUE, Long.MIN_VALUE};
        for (int box = 0; box < 14; box += 7) {
            for (long x : numbers) {
                CHECK.same(x + " to BYTE", result(4, box, x, 1, 0), (byte) x);
                CHECK.same(x + " to SHORT", result(4, 1 + box, x, 1, 0), (short) x);
                CHECK.same(x + " to CHAR", result(4, 2 + box, x, 1, 0), (char) x);
                CHECK.same(x + " to INT", result(4, 3 + box, x, 1, 0), (int) x);
                CHECK.same(x + " to LONG", result(4 + 7 - box, 4 + box, x, 1, 0), x);
                CHECK.same(x + " to BOOLEAN", result(4, 5 + box, x, 1, 0), x & 1);
            }
        }
    }

    /** "NULL: the EMPTY value"; a box that comes out is a new one. */
    private static void boxes() {
        for (int to = 0; to < 14; to++) {
            for (int from = 7; from < 13 && to % 7 != 6; from++) {
                BeanLoom loom = Looms.pair(from, to);
                loom.function(from, to, 2, 1);
                loom.rule(0, 4, 1, 0);
                loom.build();
                int source = loom.make(15, 0);
                int target = loom.map(0, source);
                CHECK.same("NULL from " + from + " to " + to, loom.get(target, 0), to < 7 ? 0 : -1);
                CHECK.same("no box is made", loom.count(3), 2);
                int box = loom.make(from, 1);
                loom.put(source, 0, box);
                target = loom.map(0, source);
                CHECK.same("a box is made if it is one", loom.count(3), to < 7 ? 4 : 5);
                long got = loom.get(target, 0);
                long due = to % 7 == 5 ? 1 : 3;
                CHECK.same("what it has", to < 7 ? got : loom.get((int) got, 0), due);
                CHECK.same("the source stays", loom.get(box, 0), 1);
                if (to > 6) {
                    CHECK.same("of its type", loom.about((int) got, 0), to);
                    CHECK.no("a new one", got == box);
                }
            }
        }
    }

    /** Eight functions, each to a type of its own: also the last one is found, and none beyond it. */
    private static void allEightAreFound() {
        int[] results = {0, 1, 2, 3, 7, 8, 9, 10};
        BeanLoom loom = new BeanLoom();
        loom.bean();
        loom.bean();
        for (int name = 0; name < 8; name++) {
            loom.property(15, name, 5);
            loom.property(16, name, results[name]);
            loom.function(5, results[name], name, 10);
        }
        loom.method(15, 16);
        CHECK.same("each one has its way", loom.build(), 1);
        int source = loom.make(15, 0);
        for (int at = 0; at < 8; at++) {
            loom.put(source, at, 1);
        }
        int target = loom.map(0, source);
        for (int at = 0; at < 8; at++) {
            long got = loom.get(target, at);
            CHECK.same("by function " + at, at < 4 ? got : loom.get((int) got, 0), at + 10);
        }
        BeanLoom none = Looms.pair(5, 4);
        for (int name = 0; name < 8; name++) {
            none.function(5, results[name], name, 10);
        }
        CHECK.diagnosis("none of eight", none, 6, 0, 0);
    }
}
