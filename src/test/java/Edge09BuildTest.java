/** Promise 9, sentence by sentence. */
public final class Edge09BuildTest {
    private static final Check CHECK = new Check();

    public static void main(String[] args) {
        howMany();
        refusedForADiagnosis();
        refusedWhenBuilt();
        sixteenMethodsWithWays();
        CHECK.end();
    }

    /** "Plans all methods: how many." */
    private static void howMany() {
        for (int methods = 0; methods <= 16; methods++) {
            BeanLoom loom = new BeanLoom();
            loom.bean();
            for (int method = 0; method < methods; method++) {
                loom.method(15, 15);
            }
            CHECK.same("methods", loom.build(), methods);
            CHECK.same("built", loom.count(4), 1);
            for (int method = 0; method < methods; method++) {
                CHECK.same("each one maps", loom.map(method, -1), -1);
            }
        }
    }

    /** "IllegalArgumentException if there is a DIAGNOSIS": then it is not built, and all that builds goes on. */
    private static void refusedForADiagnosis() {
        BeanLoom loom = Looms.pair(14, 6);
        CHECK.argument("NO CONVERSION", loom::build);
        CHECK.argument("again", loom, loom::build);
        CHECK.same("not built", loom.count(4), 0);
        CHECK.state("it does not map", loom, () -> loom.map(0, -1));
        CHECK.same("a bean", loom.bean(), 17);
        CHECK.same("an enum", loom.enumeration(1, 1), 18);
        CHECK.same("a list", loom.list(14), 19);
        CHECK.same("a property", loom.property(17, 0, 0), 0);
        CHECK.same("a method", loom.method(17, 17), 1);
        CHECK.same("a function", loom.function(3, 4, 1, 1), 0);
        loom.rule(0, 2, 1, 0);
        CHECK.same("a rule mends it", loom.build(), 2);
        CHECK.same("it maps", loom.map(0, loom.make(15, 0)), 1);
    }

    /** "IllegalStateException if it is built." */
    private static void refusedWhenBuilt() {
        BeanLoom loom = Looms.pair(3, 3);
        loom.make(15, 0);
        CHECK.same("objects do not hinder it", loom.build(), 1);
        CHECK.state("built", loom, loom::build);
        CHECK.state("again", loom, loom::build);
        CHECK.same("it still maps", loom.map(0, 0), 1);
        CHECK.state("after map()", loom, loom::build);
    }

    /** 16 methods, each one the way of a property: also the last one is found, and none beyond it. */
    private static void sixteenMethodsWithWays() {
        BeanLoom loom = new BeanLoom();
        for (int bean = 0; bean < 17; bean++) {
            loom.bean();
        }
        for (int bean = 0; bean < 16; bean++) {
            loom.property(15 + bean, 1, bean == 15 ? 3 : 16 + bean);
        }
        for (int bean = 17; bean < 32; bean++) {
            loom.method(bean - 1, bean);
        }
        loom.method(15, 16);
        // Each property of bean n comes from one of bean n - 1, whose type is one less: the next method maps it.
        loom.rule(13, 2, 1, 0);
        CHECK.same("16 methods", loom.build(), 16);
        loom.make(15, 0);
        loom.make(16, 0);
        loom.make(17, 0);
        loom.put(0, 0, 1);
        loom.put(1, 0, 2);
        CHECK.same("by the last method", loom.map(15, 0), 3);
        CHECK.same("and the first one", loom.about((int) loom.get(3, 0), 0), 17);
        BeanLoom none = new BeanLoom();
        for (int bean = 0; bean < 4; bean++) {
            none.bean();
        }
        none.property(15, 1, 17);
        none.property(16, 1, 18);
        none.method(15, 16);
        for (int method = 1; method < 16; method++) {
            none.method(18, 17);
        }
        CHECK.diagnosis("none of 16", none, 6, 0, 0);
        for (int way = 1; way < 16; way++) {
            eachIsAWay(way);
        }
    }

    /** Method 0 maps a bean's part by one method of 16. */
    private static void eachIsAWay(int way) {
        BeanLoom loom = new BeanLoom();
        for (int bean = 0; bean < 5; bean++) {
            loom.bean();
        }
        loom.property(15, 1, 17);
        loom.property(16, 1, 18);
        loom.property(17, 1, 3);
        loom.property(17, 2, 3);
        loom.property(18, 2, 3);
        loom.property(18, 1, 3);
        loom.method(15, 16);
        for (int method = 1; method < 16; method++) {
            loom.method(method == way ? 17 : 19, 18);
            loom.rule(method, method == way ? 3 : 1, 1, 50 + method);
            loom.rule(method, method == way ? 3 : 1, 2, 50 + method);
        }
        CHECK.same("16 methods", loom.build(), 16);
        loom.make(15, 0);
        loom.make(17, 0);
        loom.put(0, 0, 1);
        loom.put(1, 0, 6);
        loom.put(1, 1, 7);
        CHECK.same("the bean", loom.map(0, 0), 2);
        CHECK.same("its part by method " + way, loom.get(2, 0), 3);
        CHECK.same("of its type", loom.about(3, 0), 18);
        CHECK.same("with its values", loom.about(3, 1), 2);
        CHECK.same("the first by its name", loom.get(3, 0), 7);
        CHECK.same("the second by its name", loom.get(3, 1), 6);
    }
}
