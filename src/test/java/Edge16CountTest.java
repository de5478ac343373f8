/** Promise 16, sentence by sentence: each count goes up by its own calls alone, and by none that was refused. */
public final class Edge16CountTest {
    private static final Check CHECK = new Check();
    private static int types = 15;
    private static int methods;
    private static int functions;
    private static int objects;
    private static int built;

    public static void main(String[] args) {
        BeanLoom loom = new BeanLoom();
        due("new", loom);
        loom.bean();
        types++;
        due("a bean", loom);
        loom.enumeration(1, 1);
        types++;
        due("an enum", loom);
        loom.list(15);
        types++;
        due("a list", loom);
        loom.list(15);
        due("the same list", loom);
        loom.property(15, 1, 3);
        due("a property", loom);
        loom.method(15, 15);
        methods++;
        due("a method", loom);
        loom.function(3, 3, 1, 1);
        functions++;
        due("a function", loom);
        loom.rule(0, 5, 1, 1);
        due("a rule", loom);
        CHECK.argument("a diagnosis", loom::build);
        due("a build() that was refused", loom);
        refused(loom);

        BeanLoom good = new BeanLoom();
        good.bean();
        good.method(15, 15);
        good.rule(0, 8, 0, 1);
        types = 16;
        methods = 1;
        functions = 0;
        good.make(15, 0);
        good.make(14, 0);
        objects = 2;
        due("objects", good);
        good.put(0, 0, 0);
        due("put()", good);
        good.build();
        built = 1;
        due("built", good);
        good.map(0, 0);
        objects++;
        due("mapped", good);
        good.map(0, -1);
        objects++;
        due("mapped NULL", good);
        refused(good);
        good.make(14, 0);
        objects++;
        due("made", good);
        ends();
        CHECK.end();
    }

    private static void due(String what, BeanLoom loom) {
        int[] counts = {types, methods, functions, objects, built};
        for (int i = 0; i < 5; i++) {
            CHECK.same(what + ": count(" + i + ")", loom.count(i), counts[i]);
        }
        for (int other : new int[] {-1, 5, 6, Integer.MIN_VALUE, Integer.MAX_VALUE}) {
            CHECK.same(what + ": count(" + other + ")", loom.count(other), -1);
        }
    }

    private static void refused(BeanLoom loom) {
        CHECK.argument("enumeration", () -> loom.enumeration(1, 0));
        CHECK.argument("property", () -> loom.property(14, 0, 0));
        CHECK.argument("list", () -> loom.list(0));
        CHECK.argument("method", () -> loom.method(15, 14));
        CHECK.argument("function", () -> loom.function(3, 14, 0, 0));
        CHECK.argument("rule", () -> loom.rule(0, 9, 0, 0));
        CHECK.argument("make", () -> loom.make(0, 0));
        CHECK.argument("map", () -> loom.map(0, -2));
        CHECK.no("put", loom.put(9, 0, 0));
        CHECK.bounds("get", () -> loom.get(9, 0));
        CHECK.bounds("about", () -> loom.about(9, 0));
        due("refused calls", loom);
    }

    /** The most that there can be of each. */
    private static void ends() {
        BeanLoom loom = new BeanLoom();
        Looms.fillTypes(loom, 40);
        for (int i = 0; i < 16; i++) {
            loom.method(15, 16);
        }
        for (int i = 0; i < 8; i++) {
            loom.function(3, 4, 1, 1);
        }
        Looms.fillObjects(loom, 400);
        CHECK.state("a type too many", loom::bean);
        CHECK.state("a method too many", () -> loom.method(15, 15));
        CHECK.state("a function too many", () -> loom.function(3, 3, 1, 1));
        CHECK.state("an object too many", () -> loom.make(14, 0));
        types = 40;
        methods = 16;
        functions = 8;
        objects = 400;
        built = 0;
        due("the most", loom);
    }
}
